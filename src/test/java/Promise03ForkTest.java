/** Promise 3: fork. */
public final class Promise03ForkTest {
    public static void main(String[] args) {
        Checks.test("The least space that there is not is there: its number", Promise03ForkTest::theLeast);
        Checks.test("with copies of all pages of a space: some", Promise03ForkTest::copiesOfSomePages);
        Checks.test("with copies of all pages of a space: none", Promise03ForkTest::copiesOfNoPage);
        Checks.test("with copies of all pages of a space: all eight", Promise03ForkTest::copiesOfEveryPage);
        Checks.test("a copy comes into the same frame: none is wanted", Promise03ForkTest::noFrameWanted);
        Checks.test("-1 when all are there", Promise03ForkTest::allAreThere);
        Checks.test("NoSuchElementException when that space isn't", Promise03ForkTest::missingSpace);
        Checks.test("when that space isn't, and all are there", Promise03ForkTest::noSpaceWhenAllAreThere);
        Checks.end("Promise03ForkTest");
    }

    private static void theLeast() {
        FrameSharer x = Keepers.opened(9, 5);
        x.map(4, 3, 1);
        x.close(1);
        x.close(0);
        Checks.due("fork in the first gap", x.fork(4), 0);
        Checks.due("fork of a fork", x.fork(0), 1);
        Checks.due("fork at the end", x.fork(1), 5);
        Checks.due("holders after three forks", x.holders(5, 3), 4);
        x.close(4);
        Checks.due("holders after the first one went", x.holders(5, 3), 3);
        Checks.due("fork where the first one was", x.fork(5), 4);
    }

    private static void copiesOfSomePages() {
        FrameSharer x = Keepers.opened(9, 1);
        for (int page = 0; page < 8; page += 2) {
            x.map(0, page, page + 10);
            x.write(0, page * 16 + 15, -page);
        }
        Checks.due("fork", x.fork(0), 1);
        Checks.due("frames after fork", x.count(0), 4);
        Checks.due("pages after fork", x.count(4), 8);
        for (int page = 0; page < 8; page++) {
            boolean there = page % 2 == 0;
            Checks.due("holders after fork, page " + page, x.holders(1, page), there ? 2 : 0);
            if (there) {
                Checks.due("first cell after fork", x.read(1, page * 16), page + 10);
                Checks.due("last cell after fork", x.read(1, page * 16 + 15), -page);
            }
        }
    }

    private static void copiesOfNoPage() {
        FrameSharer x = Keepers.opened(2, 1);
        Checks.due("fork of an empty space", x.fork(0), 1);
        Checks.due("it is there", x.isThere(1), true);
        Checks.due("pages", x.count(4), 0);
        Checks.due("frames in use", x.count(0), 0);
    }

    private static void copiesOfEveryPage() {
        FrameSharer x = Keepers.wholeSpace(8, 20);
        Checks.due("fork of a whole space", x.fork(0), 1);
        Checks.due("pages", x.count(4), 16);
        for (int page = 0; page < 8; page++) {
            Checks.due("holders of page " + page, x.holders(1, page), 2);
            Checks.due("cell of page " + page, x.read(1, page * 16 + page), 20 + page);
        }
    }

    private static void noFrameWanted() {
        FrameSharer x = Keepers.opened(1, 1);
        x.map(0, 0, 8);
        Checks.due("fork with all frames in use", x.fork(0), 1);
        Checks.due("its cell", x.read(1, 0), 8);
        Checks.due("frames in use", x.count(0), 1);
    }

    private static void allAreThere() {
        FrameSharer x = Keepers.opened(4, 5);
        Checks.due("fork with five there", x.fork(4), 5);
        Checks.due("fork with six there", x.fork(5), -1);
        x.close(0);
        Checks.due("fork with five there again", x.fork(5), 0);
        for (int space = 0; space < 6; space++) {
            int s = space;
            Checks.refused("fork " + s + " with six there", Keepers.CROWDED, -1, y -> y.fork(s));
        }
        Checks.refused("fork in a full one", Keepers.CROWDED_FULL, -1, y -> y.fork(0));
    }

    private static void missingSpace() {
        Checks.refusedEach(
                "fork", Keepers.MISSING_SPACES, Keepers.BUSY, Checks.MISSING, FrameSharer::fork);
        FrameSharer x = Keepers.BUSY.get();
        Checks.due("fork of the last one there", x.fork(3), 2);
        Checks.due("fork of the one that it made", x.fork(2), 4);
    }

    /** The document gives no order here; a number that is no space can't be forked at any time. */
    private static void noSpaceWhenAllAreThere() {
        Checks.refusedEach(
                "fork", Keepers.NO_SPACES, Keepers.CROWDED, Checks.MISSING, FrameSharer::fork);
    }
}
