/** Promise 9: lend. */
public final class Promise09LendTest {
    public static void main(String[] args) {
        Checks.test("A page of space to becomes a copy of one of space from", Promise09LendTest::copies);
        Checks.test("becomes a copy: over a page that is there", Promise09LendTest::overPresent);
        Checks.test("(it is absent, if that is)", Promise09LendTest::absentPage);
        Checks.test("true when it has another frame than before", Promise09LendTest::anotherFrame);
        Checks.test("or none any more", Promise09LendTest::noneAnyMore);
        Checks.test("else false: the same frame", Promise09LendTest::sameFrame);
        Checks.test("else false: both absent", Promise09LendTest::bothAbsent);
        Checks.test("a copy comes into the same frame: none is wanted", Promise09LendTest::noFrameWanted);
        Checks.test("every page of every space, the first and the last", Promise09LendTest::corners);
        Checks.test("NoSuchElementException when a space isn't there", Promise09LendTest::missingSpaces);
        Checks.test("IndexOutOfBoundsException when a page is not 0 .. 7", Promise09LendTest::noPages);
        Checks.test("the spaces before the pages", Promise09LendTest::spacesBeforePages);
        Checks.end("Promise09LendTest");
    }

    private static void copies() {
        FrameSharer x = Keepers.opened(3, 2);
        x.map(0, 2, 5);
        x.write(0, 33, 6);
        Checks.due("lend to an absent page", x.lend(0, 2, 1, 7), true);
        Checks.due("frames after lend", x.count(0), 1);
        Checks.due("holders after lend", x.holders(1, 7), 2);
        Checks.due("cell after lend", x.read(1, 113), 6);
        Checks.due("lend within a space", x.lend(0, 2, 0, 3), true);
        Checks.due("holders after two", x.holders(0, 2), 3);
        x.write(1, 113, 8);
        Checks.due("the lender's cell stays", x.read(0, 33), 6);
    }

    private static void overPresent() {
        FrameSharer x = Keepers.opened(3, 2);
        x.map(0, 0, 5);
        x.map(1, 0, 5);
        Checks.due("lend over another frame", x.lend(0, 0, 1, 0), true);
        Checks.due("its frame is free", x.count(0), 1);
        Checks.due("holders", x.holders(0, 0), 2);
        x.map(0, 1, 9);
        x.fork(0);
        Checks.due("lend over a shared frame", x.lend(0, 0, 0, 1), true);
        Checks.due("the fork keeps its page", x.read(2, 16), 9);
        Checks.due("the fork is alone", x.holders(2, 1), 1);
    }

    private static void absentPage() {
        FrameSharer x = Keepers.opened(3, 2);
        x.map(1, 4, 5);
        x.lend(0, 0, 1, 4);
        Checks.due("the page is absent", x.holders(1, 4), 0);
        Checks.dueThrow("its cell", Checks.MISSING, () -> x.read(1, 64));
        Checks.due("the frame is free", x.count(0), 0);
        Checks.due("no page is left", x.count(4), 0);
        Checks.due("the lender's page is absent, too", x.holders(0, 0), 0);
    }

    private static void anotherFrame() {
        FrameSharer x = Keepers.BUSY.get();
        Checks.due("over another frame with other cells", x.lend(0, 0, 0, 7), true);
        Checks.due("over another frame with the same cells", x.lend(0, 0, 0, 3), true);
        Checks.due("where there was none", x.lend(0, 0, 0, 1), true);
        Checks.due("holders of the frame", x.holders(0, 1), 11);
    }

    private static void noneAnyMore() {
        FrameSharer x = Keepers.BUSY.get();
        Checks.due("over a page alone", x.lend(0, 1, 3, 0), true);
        Checks.due("frames in use", x.count(0), Keepers.BUSY_FRAMES - 1);
        Checks.due("over a shared page", x.lend(0, 1, 3, 5), true);
        Checks.due("the picture keeps its frame", x.count(0), Keepers.BUSY_FRAMES - 1);
        Checks.due("over the page of the same number", x.lend(3, 3, 1, 3), true);
        Checks.due("within one space", x.lend(0, 6, 0, 7), true);
    }

    private static void sameFrame() {
        Checks.refused("lend to itself", Keepers.BUSY, false, x -> x.lend(0, 0, 0, 0));
        Checks.refused("lend of a page alone to itself", Keepers.BUSY, false, x -> x.lend(3, 0, 3, 0));
        Checks.refused("lend to the fork", Keepers.BUSY, false, x -> x.lend(0, 0, 1, 0));
        Checks.refused("lend from the fork", Keepers.BUSY, false, x -> x.lend(1, 3, 0, 3));
        Checks.refused("lend to where it was lent", Keepers.BUSY, false, x -> x.lend(0, 0, 3, 6));
        Checks.refused("lend back", Keepers.NO_FRAME_LEFT, false, x -> x.lend(3, 6, 0, 0));
        FrameSharer x = Keepers.BUSY.get();
        x.write(0, 0, 1);
        Checks.due("lend when they have parted, with the same cells", x.lend(0, 0, 1, 0), true);
        Checks.due("lend when they are one again", x.lend(0, 0, 1, 0), false);
    }

    private static void bothAbsent() {
        Checks.refused("lend of absence", Keepers.BUSY, false, x -> x.lend(0, 1, 3, 1));
        Checks.refused("lend of absence to itself", Keepers.BUSY, false, x -> x.lend(0, 1, 0, 1));
        Checks.refused("lend of absence within a space", Keepers.BUSY, false, x -> x.lend(3, 7, 3, 2));
        Checks.refused("lend of absence, no frame free", Keepers.NO_FRAME_LEFT, false, x -> x.lend(1, 6, 3, 7));
    }

    private static void noFrameWanted() {
        FrameSharer x = Keepers.opened(1, 1);
        x.map(0, 0, 5);
        Checks.due("lend with all frames in use", x.lend(0, 0, 0, 1), true);
        Checks.due("holders", x.holders(0, 1), 2);
        FrameSharer y = Keepers.NO_FRAME_LEFT.get();
        Checks.due("lend over a page alone", y.lend(0, 7, 3, 0), true);
        Checks.due("its frame is free", y.map(0, 1, 8), true);
    }

    private static void corners() {
        for (int from : new int[] {0, 5}) {
            for (int page : new int[] {0, 7}) {
                FrameSharer x = Keepers.opened(2, 6);
                x.map(from, page, 3);
                Checks.due("lend to the other corner", x.lend(from, page, 5 - from, 7 - page), true);
                Checks.due("its last cell", x.read(5 - from, (7 - page) * 16 + 15), 3);
                Checks.due("pages", x.count(4), 2);
            }
        }
    }

    private static void missingSpaces() {
        Alike.missingSpaces("lend", FrameSharer::lend);
    }

    private static void noPages() {
        Alike.noPages("lend", FrameSharer::lend);
    }

    private static void spacesBeforePages() {
        Alike.spacesBeforePages("lend", FrameSharer::lend);
    }
}
