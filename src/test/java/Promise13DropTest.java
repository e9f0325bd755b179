/** Promise 13: drop. */
public final class Promise13DropTest {
    public static void main(String[] args) {
        Checks.test("A picture goes", Promise13DropTest::goes);
        Checks.test("how many frames became free", Promise13DropTest::howMany);
        Checks.test("how many frames became free: none", Promise13DropTest::none);
        Checks.test("how many frames became free: the last holder's alone", Promise13DropTest::lastHolder);
        Checks.test("how many frames became free: all", Promise13DropTest::all);
        Checks.test("became free: they can be had again", Promise13DropTest::free);
        Checks.test("NoSuchElementException when it isn't there", Promise13DropTest::missingPicture);
        Checks.test("when it isn't there: any more", Promise13DropTest::droppedTwice);
        Checks.end("Promise13DropTest");
    }

    private static void goes() {
        for (int picture = 0; picture < 8; picture++) {
            FrameSharer x = Keepers.CROWDED.get();
            int p = picture;
            x.drop(p);
            Checks.due("pictures", x.count(3), 7);
            Checks.due("spaces", x.count(2), 6);
            Checks.dueThrow("back to " + p, Checks.MISSING, () -> x.back(p));
            Checks.dueThrow("changed since " + p, Checks.MISSING, () -> x.changed(p));
            Checks.due("take", x.take(), p);
        }
    }

    private static void howMany() {
        FrameSharer x = Keepers.opened(9, 2);
        x.map(0, 0, 1);
        x.map(0, 1, 1);
        x.map(1, 2, 1);
        x.lend(1, 2, 0, 5);
        x.take();
        x.unmap(0, 0);
        x.close(1);
        x.unmap(0, 5);
        Checks.due("drop: two pages in one frame, one in another", x.drop(0), 2);
        Checks.due("frames that stay", x.count(0), 1);
        Checks.due("pictures", x.count(3), 0);
        Checks.due("the page that stays", x.holders(0, 1), 1);
        Checks.due("the spaces stay", x.count(2), 1);
    }

    private static void none() {
        FrameSharer x = Keepers.opened(9, 1);
        x.take();
        Checks.due("drop of an empty picture", x.drop(0), 0);
        x.map(0, 0, 1);
        x.take();
        Checks.due("drop while the space holds the page", x.drop(0), 0);
        Checks.due("holders", x.holders(0, 0), 1);
        FrameSharer y = new FrameSharer(1);
        y.take();
        Checks.due("drop of a picture of no space", y.drop(0), 0);
    }

    private static void lastHolder() {
        FrameSharer x = Keepers.opened(9, 1);
        x.map(0, 0, 1);
        x.take();
        x.take();
        x.unmap(0, 0);
        Checks.due("drop of the first", x.drop(0), 0);
        Checks.due("drop of the second", x.drop(1), 1);
        Checks.due("frames", x.count(0), 0);
    }

    private static void all() {
        for (int corner = 0; corner < 2; corner++) {
            FrameSharer x = Keepers.opened(4, 6);
            x.map(corner * 5, corner * 7, 3);
            x.take();
            x.unmap(corner * 5, corner * 7);
            Checks.due("drop, corner " + corner, x.drop(0), 1);
            Checks.due("frames, corner " + corner, x.count(0), 0);
        }
        FrameSharer x = Keepers.opened(60, 6);
        for (int page = 0; page < 48; page++) {
            x.map(page / 8, page % 8, page);
        }
        x.take();
        for (int space = 0; space < 6; space++) {
            x.close(space);
        }
        Checks.due("drop of every page of every space", x.drop(0), 48);
        Checks.due("frames", x.count(0), 0);
    }

    private static void free() {
        FrameSharer x = Keepers.opened(1, 1);
        x.map(0, 0, 1);
        x.take();
        x.unmap(0, 0);
        Checks.dueThrow("map before drop", Checks.NO_FRAME, () -> x.map(0, 0, 2));
        Checks.due("drop", x.drop(0), 1);
        Checks.due("map after drop", x.map(0, 0, 2), true);
    }

    private static void missingPicture() {
        Alike.missingPicture("drop", FrameSharer::drop);
        FrameSharer x = Keepers.CROWDED.get();
        Checks.due("drop of the last", x.drop(7), 0);
        Checks.due("drop of the first: a page of a closed space", x.drop(0), 1);
    }

    private static void droppedTwice() {
        for (int picture : new int[] {0, 2}) {
            Checks.refused(
                    "drop twice " + picture, Keepers.after(Keepers.BUSY, x -> x.drop(picture)), Checks.MISSING,
                    x -> x.drop(picture));
        }
        FrameSharer x = Keepers.BUSY.get();
        x.drop(0);
        x.take();
        Checks.due("drop when it is there again", x.drop(0), 0);
    }
}
