/** Promise 14: holders. */
public final class Promise14HoldersTest {
    public static void main(String[] args) {
        Checks.test("How many holders the frame of a page has", Promise14HoldersTest::howMany);
        Checks.test("How many holders: from one to all", Promise14HoldersTest::fromOneToAll);
        Checks.test("0 when the page is absent", Promise14HoldersTest::absentPage);
        Checks.test("NoSuchElementException when the space isn't there", Promise14HoldersTest::missingSpace);
        Checks.test("IndexOutOfBoundsException when page is not 0 .. 7", Promise14HoldersTest::noPage);
        Checks.test("the space before the page", Promise14HoldersTest::spaceBeforePage);
        Checks.end("Promise14HoldersTest");
    }

    private static void howMany() {
        FrameSharer x = Keepers.opened(4, 1);
        x.map(0, 7, 1);
        Checks.due("holders alone", x.holders(0, 7), 1);
        x.fork(0);
        x.lend(0, 7, 1, 0);
        Checks.due("holders with a fork and a copy", x.holders(0, 7), 3);
        for (int picture = 0; picture < 8; picture++) {
            x.take();
        }
        Checks.due("holders with eight pictures", x.holders(1, 0), 27);
        x.drop(3);
        Checks.due("holders after drop", x.holders(1, 7), 24);
        x.close(0);
        Checks.due("holders after close", x.holders(1, 7), 23);
        x.write(1, 112, 1);
        Checks.due("holders after write, the writer", x.holders(1, 7), 1);
        Checks.due("holders after write, another", x.holders(1, 0), 22);
        Checks.refused("holders of a shared page", Keepers.BUSY, 8, y -> y.holders(0, 0));
    }

    /** As many as can be: 48 pages now and 48 in each of eight pictures, all in one frame. */
    private static void fromOneToAll() {
        FrameSharer x = Keepers.opened(1, 6);
        x.map(0, 0, 1);
        for (int page = 1; page < 48; page++) {
            x.lend(0, 0, page / 8, page % 8);
            Checks.due("holders with " + page + " copies", x.holders(page / 8, page % 8), page + 1);
        }
        for (int picture = 0; picture < 8; picture++) {
            x.take();
            Checks.due("holders with picture " + picture, x.holders(5, 7), 48 * (picture + 2));
        }
        Checks.due("frames", x.count(0), 1);
    }

    private static void absentPage() {
        for (int page = 0; page < 8; page++) {
            FrameSharer x = Keepers.opened(1, 6);
            Checks.due("holders of an absent page " + page, x.holders(5, page), 0);
            x.map(5, page, 0);
            Checks.due("holders when it is there", x.holders(5, page), 1);
            x.unmap(5, page);
            Checks.due("holders when it is absent again", x.holders(5, page), 0);
        }
        Checks.refused("holders of an absent page", Keepers.BUSY, 0, x -> x.holders(0, 1));
        FrameSharer y = Keepers.opened(1, 1);
        y.map(0, 0, 1);
        y.take();
        y.unmap(0, 0);
        Checks.due("holders of a page in a picture alone", y.holders(0, 0), 0);
    }

    private static void missingSpace() {
        Alike.missingSpace("holders", Keepers.BUSY, FrameSharer::holders);
    }

    private static void noPage() {
        Alike.noPage("holders", Keepers.BUSY, FrameSharer::holders);
        FrameSharer x = Keepers.BUSY.get();
        Checks.due("holders of page 0", x.holders(0, 0), 8);
        Checks.due("holders of page 7", x.holders(0, 7), 4);
    }

    private static void spaceBeforePage() {
        Alike.spaceBeforePage("holders", Keepers.BUSY, FrameSharer::holders);
    }
}
