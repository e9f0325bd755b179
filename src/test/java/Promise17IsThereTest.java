/** Promise 17: isThere. */
public final class Promise17IsThereTest {
    public static void main(String[] args) {
        Checks.test("Whether a space is there", Promise17IsThereTest::eachSpace);
        Checks.test("none there at first", Promise17IsThereTest::noneAtFirst);
        Checks.test("Whether a space is there: now, not in a picture", Promise17IsThereTest::nowAlone);
        Checks.test("0 .. 5: no number beyond is a space", Promise17IsThereTest::noSpaces);
        Checks.end("Promise17IsThereTest");
    }

    private static void eachSpace() {
        for (int gone = 0; gone < 6; gone++) {
            FrameSharer x = Keepers.opened(4, 6);
            x.close(gone);
            for (int space = -1; space <= 6; space++) {
                boolean there = space >= 0 && space < 6 && space != gone;
                Checks.due("isThere " + space, x.isThere(space), there);
            }
        }
    }

    private static void noneAtFirst() {
        Checks.refusedEach(
                "isThere", Checks.withFar(-1, 0, 1, 5, 6), () -> new FrameSharer(4), false, FrameSharer::isThere);
    }

    private static void nowAlone() {
        FrameSharer x = Keepers.opened(4, 2);
        x.take();
        x.close(1);
        Checks.due("in the picture alone", x.isThere(1), false);
        x.back(0);
        Checks.due("back from it", x.isThere(1), true);
        x.open();
        Checks.due("now alone", x.isThere(2), true);
        x.back(0);
        Checks.due("in no picture", x.isThere(2), false);
    }

    private static void noSpaces() {
        Checks.refusedEach("isThere", Keepers.MISSING_SPACES, Keepers.BUSY, false, FrameSharer::isThere);
        Checks.refusedEach("isThere, all are", Keepers.NO_SPACES, Keepers.CROWDED, false, FrameSharer::isThere);
        FrameSharer x = Keepers.CROWDED.get();
        for (int space = 6; space < 200; space++) {
            Checks.due("isThere " + space, x.isThere(space), false);
            Checks.due("isThere " + -space, x.isThere(-space), false);
        }
        Checks.due("isThere 0", x.isThere(0), true);
        Checks.due("isThere 5", x.isThere(5), true);
    }
}
