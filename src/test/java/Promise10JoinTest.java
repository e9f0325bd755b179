/** Promise 10: join. */
public final class Promise10JoinTest {
    public static void main(String[] args) {
        Checks.test("all in the second one's frame come into the first one's", Promise10JoinTest::allCome);
        Checks.test("how many these were", Promise10JoinTest::howMany);
        Checks.test("(Those in pictures, too.)", Promise10JoinTest::picturesToo);
        Checks.test("how many these were: whichever comes first", Promise10JoinTest::bothWays);
        Checks.test("the frame that they left is free", Promise10JoinTest::frameIsFree);
        Checks.test("If both pages are there; else 0", Promise10JoinTest::absentPages);
        Checks.test("in different frames; else 0", Promise10JoinTest::sameFrame);
        Checks.test("with the same cells; else 0", Promise10JoinTest::differentCells);
        Checks.test("every page of every space, the first and the last", Promise10JoinTest::corners);
        Checks.test("Throws as lend: a space isn't there", Promise10JoinTest::missingSpaces);
        Checks.test("Throws as lend: a page is not 0 .. 7", Promise10JoinTest::noPages);
        Checks.test("Throws as lend: the spaces before the pages", Promise10JoinTest::spacesBeforePages);
        Checks.end("Promise10JoinTest");
    }

    private static void allCome() {
        FrameSharer x = Keepers.opened(4, 2);
        x.map(0, 0, 5);
        x.map(1, 1, 5);
        x.lend(1, 1, 1, 2);
        x.lend(1, 1, 0, 7);
        Checks.due("join", x.join(0, 0, 1, 2), 3);
        Checks.due("frames after join", x.count(0), 1);
        Checks.due("holders after join", x.holders(0, 0), 4);
        Checks.due("holders of another", x.holders(0, 7), 4);
        Checks.due("cell of another", x.read(1, 31), 5);
        Checks.due("pages stay", x.count(4), 4);
        Checks.due("join again", x.join(0, 0, 1, 2), 0);
    }

    /** From one alone to as many as there can be: all pages of all spaces and pictures but one's own. */
    private static void howMany() {
        FrameSharer x = Keepers.opened(2, 1);
        x.map(0, 0, 5);
        x.map(0, 1, 5);
        Checks.due("join of one alone", x.join(0, 0, 0, 1), 1);
        FrameSharer y = Keepers.opened(2, 6);
        y.map(0, 0, 5);
        for (int page = 1; page < 48; page++) {
            y.lend(0, 0, page / 8, page % 8);
        }
        for (int picture = 0; picture < 8; picture++) {
            y.take();
        }
        y.unmap(5, 7);
        y.map(5, 7, 5);
        Checks.due("join of all others", y.join(5, 7, 0, 0), 9 * 48 - 1);
        Checks.due("holders", y.holders(5, 7), 9 * 48);
        Checks.due("frames", y.count(0), 1);
    }

    private static void picturesToo() {
        FrameSharer x = Keepers.opened(4, 2);
        x.map(0, 0, 5);
        x.map(1, 0, 5);
        x.take();
        x.take();
        x.unmap(0, 0);
        x.map(0, 0, 5);
        Checks.due("changed before join", x.changed(0), 1);
        Checks.due("join with pictures", x.join(0, 0, 1, 0), 3);
        Checks.due("holders: two spaces, two pictures", x.holders(0, 0), 4);
        Checks.due("changed: the pictures came along", x.changed(0), 1);
        x.back(0);
        Checks.due("back to the joined frame", x.holders(1, 0), 3);
        Checks.due("the picture's other frame", x.holders(0, 0), 3);
        Checks.due("frames", x.count(0), 2);
    }

    /** A picture that knows one of both frames sees the same, whichever way they are joined. */
    private static void bothWays() {
        FrameSharer x = oneInAPicture();
        Checks.due("join into the picture's frame", x.join(0, 0, 1, 0), 1);
        Checks.due("only the new page differs", x.changed(0), 1);
        FrameSharer y = oneInAPicture();
        Checks.due("join of the picture's frame", y.join(1, 0, 0, 0), 2);
        Checks.due("the picture's page came along", y.changed(0), 1);
        Checks.due("holders", y.holders(1, 0), 3);
    }

    private static FrameSharer oneInAPicture() {
        FrameSharer x = Keepers.opened(4, 2);
        x.map(0, 0, 5);
        x.take();
        x.map(1, 0, 5);
        return x;
    }

    private static void frameIsFree() {
        FrameSharer x = Keepers.NO_FRAME_LEFT.get();
        Checks.due("join, no frame free", x.join(0, 0, 0, 3), 6);
        Checks.due("frames in use", x.count(0), Keepers.BUSY_FRAMES - 1);
        Checks.due("map into the free one", x.map(0, 1, 8), true);
        Checks.due("the joined page keeps its cells", x.read(0, 48), 1);
    }

    private static void absentPages() {
        Checks.refused("join with an absent first", Keepers.BUSY, 0, x -> x.join(0, 1, 0, 0));
        Checks.refused("join with an absent second", Keepers.BUSY, 0, x -> x.join(0, 0, 0, 1));
        Checks.refused("join of two absent", Keepers.BUSY, 0, x -> x.join(0, 1, 3, 1));
        Checks.refused("join of an absent one with itself", Keepers.BUSY, 0, x -> x.join(0, 1, 0, 1));
        FrameSharer x = Keepers.opened(2, 1);
        x.map(0, 0, 0);
        Checks.due("join of zeros with absence", x.join(0, 0, 0, 1), 0);
        x.map(0, 1, 0);
        Checks.due("join when both are there", x.join(0, 0, 0, 1), 1);
    }

    private static void sameFrame() {
        Checks.refused("join with itself", Keepers.BUSY, 0, x -> x.join(0, 0, 0, 0));
        Checks.refused("join of one alone with itself", Keepers.BUSY, 0, x -> x.join(3, 0, 3, 0));
        Checks.refused("join with the fork", Keepers.BUSY, 0, x -> x.join(0, 0, 1, 0));
        Checks.refused("join with where it was lent", Keepers.NO_FRAME_LEFT, 0, x -> x.join(3, 6, 0, 0));
        FrameSharer x = Keepers.BUSY.get();
        Checks.due("join of two frames", x.join(0, 0, 0, 3), 6);
        Checks.due("join of one", x.join(0, 0, 0, 3), 0);
        Checks.due("join of one the other way", x.join(0, 3, 0, 0), 0);
    }

    private static void differentCells() {
        Checks.refused("join, the first cell differs", Keepers.BUSY, 0, x -> x.join(0, 7, 1, 7));
        Checks.refused("join, all cells differ", Keepers.NO_FRAME_LEFT, 0, x -> x.join(0, 0, 0, 7));
        for (int cell = 0; cell < 16; cell++) {
            int address = cell;
            FrameSharer x = twoPages();
            x.write(0, 16 + address, 6);
            Checks.due("join, cell " + cell + " differs", x.join(0, 0, 0, 1), 0);
            Checks.due("the other way", x.join(0, 1, 0, 0), 0);
            Checks.due("two frames stay", x.count(0), 2);
            x.write(0, address, 6);
            Checks.due("join, cell " + cell + " is the same", x.join(0, 0, 0, 1), 1);
        }
        Checks.refused(
                "join, the last cell differs", Keepers.after(Promise10JoinTest::twoPages, x -> x.write(0, 31, 6)),
                0, x -> x.join(0, 0, 0, 1));
    }

    private static FrameSharer twoPages() {
        FrameSharer x = Keepers.opened(4, 1);
        x.map(0, 0, 5);
        x.map(0, 1, 5);
        return x;
    }

    private static void corners() {
        for (int space : new int[] {0, 5}) {
            for (int page : new int[] {0, 7}) {
                FrameSharer x = Keepers.opened(2, 6);
                x.map(space, page, 3);
                x.map(5 - space, 7 - page, 3);
                Checks.due("join with the other corner", x.join(space, page, 5 - space, 7 - page), 1);
                Checks.due("holders", x.holders(5 - space, 7 - page), 2);
                Checks.due("frames", x.count(0), 1);
            }
        }
    }

    private static void missingSpaces() {
        Alike.missingSpaces("join", FrameSharer::join);
    }

    private static void noPages() {
        Alike.noPages("join", FrameSharer::join);
    }

    private static void spacesBeforePages() {
        Alike.spacesBeforePages("join", FrameSharer::join);
    }
}
