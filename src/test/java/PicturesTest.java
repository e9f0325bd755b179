/** Promises 11, 12, 13, 15 and 16: take, back, drop, changed, count. */
public final class PicturesTest {
    private interface OfPicture {
        Object call(int picture);
    }

    public static void main(String[] args) {
        takeGivesTheLeast();
        takeWhenAllAreThere();
        takeNeedsNoFrame();
        takeAgainHoldsTheNewPages();
        backBringsSpacesAndCells();
        backToNoSpaces();
        backKeepsThePicture();
        backFreesFrames();
        backWithoutFreeFrame();
        dropTellsFreedFrames();
        dropOfOneOfTwo();
        missingPictures();
        changedCountsPages();
        changedWithSpaces();
        firstAndLastPage();
        countOfAll();
        Checks.end("PicturesTest");
    }

    private static void takeGivesTheLeast() {
        FrameSharer x = Checks.keeper(3, 1);
        for (int picture = 0; picture < 8; picture++) {
            Checks.due("take", x.take(), picture);
            Checks.due("pictures", x.count(3), picture + 1);
        }
        x.drop(6);
        x.drop(2);
        Checks.due("take in the gap", x.take(), 2);
        Checks.due("take in the next gap", x.take(), 6);
    }

    private static void takeWhenAllAreThere() {
        FrameSharer x = Checks.keeper(3, 1);
        x.map(0, 0, 1);
        for (int picture = 0; picture < 8; picture++) {
            x.take();
        }
        Checks.dueUnchanged("take of a ninth", x, -1, x::take);
    }

    private static void takeNeedsNoFrame() {
        FrameSharer x = Checks.keeper(1, 1);
        x.map(0, 0, 1);
        Checks.due("take with all frames in use", x.take(), 0);
        Checks.due("frames", x.count(0), 1);
        Checks.due("pages in pictures are not counted", x.count(4), 1);
        Checks.due("holders", x.holders(0, 0), 2);
    }

    private static void takeAgainHoldsTheNewPages() {
        FrameSharer x = Checks.keeper(5, 2);
        x.map(0, 0, 1);
        x.map(1, 0, 1);
        x.take();
        x.close(1);
        x.unmap(0, 0);
        x.drop(0);
        Checks.due("take again", x.take(), 0);
        Checks.due("no page in the new picture", x.count(0), 0);
        Checks.due("nothing changed since", x.changed(0), 0);
        Checks.due("back to the one space", x.back(0), 1);
        Checks.due("the second space isn't there", x.isThere(1), false);
    }

    private static void backBringsSpacesAndCells() {
        FrameSharer x = Checks.keeper(10, 3);
        x.map(0, 0, 1);
        x.map(2, 7, 3);
        x.write(2, 127, 4);
        x.close(1);
        x.take();
        x.close(0);
        x.write(2, 127, 5);
        x.map(2, 0, 9);
        x.open();
        x.open();
        x.open();
        x.map(1, 1, 1);
        Checks.due("back", x.back(0), 2);
        Checks.due("space 0", x.isThere(0), true);
        Checks.due("space 1", x.isThere(1), false);
        Checks.due("space 2", x.isThere(2), true);
        Checks.due("space 3", x.isThere(3), false);
        Checks.due("a page of a closed space", x.read(0, 0), 1);
        Checks.due("a written cell", x.read(2, 127), 4);
        Checks.due("its neighbour", x.read(2, 126), 3);
        Checks.due("a later page", x.holders(2, 0), 0);
        Checks.due("pages", x.count(4), 2);
        Checks.due("frames", x.count(0), 2);
        Checks.due("changed", x.changed(0), 0);
        Checks.due("the space that came and went is empty", x.open() * 10 + x.holders(1, 1), 10);
    }

    private static void backToNoSpaces() {
        FrameSharer x = new FrameSharer(3);
        x.take();
        x.open();
        x.map(0, 0, 1);
        Checks.due("back to none", x.back(0), 0);
        Checks.due("spaces", x.count(2), 0);
        Checks.due("frames", x.count(0), 0);
        Checks.due("open", x.open(), 0);
        Checks.due("its page", x.holders(0, 0), 0);
    }

    private static void backKeepsThePicture() {
        FrameSharer x = Checks.keeper(4, 1);
        x.map(0, 0, 1);
        x.take();
        for (int time = 0; time < 3; time++) {
            x.write(0, 0, 50 + time);
            Checks.due("back again", x.back(0), 1);
            Checks.due("its cell", x.read(0, 0), 1);
            Checks.due("its holders", x.holders(0, 0), 2);
            Checks.due("pictures", x.count(3), 1);
        }
    }

    private static void backFreesFrames() {
        FrameSharer x = Checks.keeper(4, 1);
        x.take();
        x.map(0, 0, 1);
        x.map(0, 1, 1);
        x.take();
        x.map(0, 2, 1);
        Checks.due("frames before", x.count(0), 3);
        x.back(0);
        Checks.due("frames of the later picture stay", x.count(0), 2);
        Checks.due("forward to the later picture", x.back(1), 1);
        Checks.due("its cell", x.read(0, 16), 1);
    }

    private static void backWithoutFreeFrame() {
        FrameSharer x = Checks.keeper(2, 1);
        x.map(0, 0, 1);
        x.take();
        x.write(0, 0, 2);
        Checks.due("back with all frames in use", x.back(0), 1);
        Checks.due("frames", x.count(0), 1);
    }

    private static void dropTellsFreedFrames() {
        FrameSharer x = Checks.keeper(9, 2);
        x.map(0, 0, 1);
        x.map(0, 1, 1);
        x.map(1, 2, 1);
        x.lend(1, 2, 0, 5);
        x.take();
        x.unmap(0, 0);
        x.close(1);
        x.unmap(0, 5);
        Checks.due("drop: two pages in one frame, one in another", x.drop(0), 2);
        Checks.due("frames that stay", x.count(0), 1);
        Checks.due("pictures", x.count(3), 0);
        Checks.due("the page that stays", x.holders(0, 1), 1);
        Checks.due("the spaces stay", x.count(2), 1);
    }

    private static void dropOfOneOfTwo() {
        FrameSharer x = Checks.keeper(9, 1);
        x.map(0, 0, 1);
        x.take();
        x.take();
        x.unmap(0, 0);
        Checks.due("drop of the first", x.drop(0), 0);
        Checks.dueThrow("drop twice", Checks.MISSING, () -> x.drop(0));
        Checks.due("drop of the second", x.drop(1), 1);
        x.take();
        Checks.due("drop of an empty picture", x.drop(0), 0);
    }

    private static void missingPictures() {
        FrameSharer x = Checks.keeper(3, 2);
        x.map(1, 1, 1);
        x.take();
        x.take();
        x.drop(0);
        missingPicture("back", x, x::back);
        missingPicture("drop", x, x::drop);
        missingPicture("changed", x, x::changed);
    }

    private static void missingPicture(String name, FrameSharer x, OfPicture calls) {
        Checks.dueThrowUnchanged(name + " of a dropped one", x, Checks.MISSING, () -> calls.call(0));
        Checks.dueThrow(name + " of one never taken", Checks.MISSING, () -> calls.call(7));
        Checks.dueThrow(name + " of 8", Checks.MISSING, () -> calls.call(8));
        for (int far : Checks.FAR) {
            Checks.dueThrow(name + " of " + far, Checks.MISSING, () -> calls.call(far));
        }
    }

    private static void changedCountsPages() {
        FrameSharer x = Checks.keeper(20, 1);
        x.map(0, 0, 1);
        x.map(0, 1, 1);
        x.map(0, 2, 1);
        x.take();
        Checks.due("changed at once", x.changed(0), 0);
        x.write(0, 0, 1);
        Checks.due("changed by a write of the same", x.changed(0), 1);
        x.unmap(0, 1);
        Checks.due("changed by unmap", x.changed(0), 2);
        x.map(0, 7, 1);
        Checks.due("changed by map", x.changed(0), 3);
        x.lend(0, 2, 0, 0);
        Checks.due("changed by lend", x.changed(0), 3);
        x.write(0, 0, 9);
        x.write(0, 1 * 16 + 16, 9);
        Checks.due("changed in all", x.changed(0), 4);
        x.back(0);
        Checks.due("changed after back", x.changed(0), 0);
    }

    private static void changedWithSpaces() {
        FrameSharer x = Checks.keeper(20, 2);
        x.map(0, 0, 1);
        x.map(1, 1, 1);
        x.map(1, 2, 1);
        x.take();
        x.open();
        Checks.due("an empty space changes nothing", x.changed(0), 0);
        x.fork(1);
        Checks.due("a fork changes its pages", x.changed(0), 2);
        x.close(0);
        Checks.due("a closed space changes its pages", x.changed(0), 3);
        x.open();
        Checks.due("an empty one in its place", x.changed(0), 3);
        x.take();
        Checks.due("the later picture", x.changed(1), 0);
        x.close(3);
        Checks.due("the fork is gone", x.changed(0) * 10 + x.changed(1), 12);
        x.back(0);
        Checks.due("the later picture after back", x.changed(1), 3);
    }

    private static void firstAndLastPage() {
        for (int corner = 0; corner < 2; corner++) {
            int space = corner * 5;
            int page = corner * 7;
            FrameSharer x = Checks.keeper(4, 6);
            x.map(space, page, 3);
            x.take();
            Checks.due("pages, corner " + corner, x.count(4), 1);
            x.close(space);
            Checks.due("changed, corner " + corner, x.changed(0), 1);
            Checks.due("frames, corner " + corner, x.count(0), 1);
            Checks.due("back, corner " + corner, x.back(0), 6);
            Checks.due("isThere, corner " + corner, x.isThere(space), true);
            Checks.due("read, corner " + corner, x.read(space, page * 16), 3);
            x.unmap(space, page);
            Checks.due("drop, corner " + corner, x.drop(0), 1);
            Checks.due("no frame, corner " + corner, x.count(0), 0);
        }
    }

    private static void countOfAll() {
        FrameSharer x = Checks.keeper(12, 3);
        x.map(0, 0, 1);
        x.map(0, 1, 1);
        x.fork(0);
        x.take();
        x.take();
        x.write(0, 0, 2);
        x.close(1);
        Checks.due("frames in use", x.count(0), 3);
        Checks.due("frames", x.count(1), 12);
        Checks.due("spaces", x.count(2), 3);
        Checks.due("pictures", x.count(3), 2);
        Checks.due("pages", x.count(4), 4);
        Checks.due("count of 5", x.count(5), -1);
        for (int far : Checks.FAR) {
            Checks.due("count of " + far, x.count(far), -1);
        }
    }
}
