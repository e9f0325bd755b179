/** Promise 16: count. */
public final class Promise16CountTest {
    public static void main(String[] args) {
        Checks.test("0 frames in use", Promise16CountTest::framesInUse);
        Checks.test("1 frames", Promise16CountTest::frames);
        Checks.test("2 spaces", Promise16CountTest::spaces);
        Checks.test("3 pictures", Promise16CountTest::pictures);
        Checks.test("4 pages that are there in all spaces", Promise16CountTest::pages);
        Checks.test("each what counts its own", Promise16CountTest::eachItsOwn);
        Checks.test("-1 for others", Promise16CountTest::others);
        Checks.end("Promise16CountTest");
    }

    private static void framesInUse() {
        FrameSharer x = Keepers.opened(60, 6);
        Checks.due("none", x.count(0), 0);
        for (int page = 0; page < 48; page++) {
            x.map(page / 8, page % 8, 1);
            Checks.due("frames in use", x.count(0), page + 1);
        }
        x.take();
        for (int page = 0; page < 12; page++) {
            x.write(page / 8, page % 8 * 16, 1);
            Checks.due("frames in use with a picture", x.count(0), page + 49);
        }
        Checks.due("all", x.count(0), x.count(1));
        Checks.dueThrow("no more", Checks.NO_FRAME, () -> x.write(5, 127, 1));
        Checks.due("still all", x.count(0), 60);
    }

    private static void frames() {
        for (int frames : new int[] {1, 2, 59, 60}) {
            FrameSharer x = Keepers.opened(frames, 1);
            Checks.due("frames", x.count(1), frames);
            x.map(0, 0, 1);
            Checks.due("frames when one is in use", x.count(1), frames);
        }
    }

    private static void spaces() {
        FrameSharer x = new FrameSharer(1);
        Checks.due("none", x.count(2), 0);
        for (int space = 0; space < 6; space++) {
            x.open();
            Checks.due("spaces", x.count(2), space + 1);
        }
        x.open();
        Checks.due("no seventh", x.count(2), 6);
        x.take();
        x.close(0);
        Checks.due("not those in pictures", x.count(2), 5);
    }

    private static void pictures() {
        FrameSharer x = new FrameSharer(1);
        Checks.due("none", x.count(3), 0);
        for (int picture = 0; picture < 8; picture++) {
            x.take();
            Checks.due("pictures", x.count(3), picture + 1);
        }
        x.take();
        Checks.due("no ninth", x.count(3), 8);
        x.drop(7);
        Checks.due("one less", x.count(3), 7);
    }

    private static void pages() {
        FrameSharer x = Keepers.opened(1, 6);
        Checks.due("none", x.count(4), 0);
        x.map(0, 0, 1);
        for (int page = 1; page < 48; page++) {
            x.lend(0, 0, page / 8, page % 8);
            Checks.due("pages in one frame", x.count(4), page + 1);
        }
        x.take();
        Checks.due("not those in pictures", x.count(4), 48);
        x.close(5);
        Checks.due("those of five spaces", x.count(4), 40);
    }

    private static void eachItsOwn() {
        FrameSharer x = Keepers.opened(12, 3);
        x.map(0, 0, 1);
        x.map(0, 1, 1);
        x.fork(0);
        x.take();
        x.take();
        x.write(0, 0, 2);
        x.close(1);
        x.map(3, 7, 1);
        Checks.due("frames in use", x.count(0), 4);
        Checks.due("frames", x.count(1), 12);
        Checks.due("spaces", x.count(2), 3);
        Checks.due("pictures", x.count(3), 2);
        Checks.due("pages", x.count(4), 5);
    }

    private static void others() {
        Checks.refusedEach("count of", Checks.withFar(-1, 5, 6), Keepers.BUSY, -1, FrameSharer::count);
        FrameSharer x = Keepers.BUSY.get();
        Checks.due("count of 0", x.count(0), Keepers.BUSY_FRAMES);
        Checks.due("count of 4", x.count(4), 9);
        Checks.refusedEach(
                "count in a new one of", new int[] {-1, 5}, () -> new FrameSharer(2), -1, FrameSharer::count);
    }
}
