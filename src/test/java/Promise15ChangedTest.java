/** Promise 15: changed. */
public final class Promise15ChangedTest {
    public static void main(String[] args) {
        Checks.test("How many pages stand now in another frame", Promise15ChangedTest::anotherFrame);
        Checks.test("in another frame: not other cells alone", Promise15ChangedTest::framesNotCells);
        Checks.test("or are absent in one of both alone", Promise15ChangedTest::absentInOne);
        Checks.test("absent in both", Promise15ChangedTest::absentInBoth);
        Checks.test("of spaces that are there, or were there", Promise15ChangedTest::spacesOfBoth);
        Checks.test("(a space that isn't there has all pages absent): now", Promise15ChangedTest::goneSpace);
        Checks.test("(a space that isn't there has all pages absent): then", Promise15ChangedTest::newSpace);
        Checks.test("How many pages: from none to all", Promise15ChangedTest::fromNoneToAll);
        Checks.test("How many pages: nothing else changes", Promise15ChangedTest::changesNothing);
        Checks.test("NoSuchElementException when the picture isn't there", Promise15ChangedTest::missingPicture);
        Checks.end("Promise15ChangedTest");
    }

    private static void anotherFrame() {
        FrameSharer x = Keepers.opened(20, 1);
        x.map(0, 0, 1);
        x.map(0, 1, 1);
        x.map(0, 2, 1);
        x.take();
        Checks.due("changed at once", x.changed(0), 0);
        x.write(0, 0, 2);
        Checks.due("changed by a write", x.changed(0), 1);
        x.write(0, 1, 2);
        Checks.due("changed by another write in the page", x.changed(0), 1);
        x.lend(0, 2, 0, 0);
        Checks.due("changed by a lend", x.changed(0), 1);
        x.lend(0, 1, 0, 2);
        Checks.due("changed by another lend", x.changed(0), 2);
        x.back(0);
        Checks.due("changed after back", x.changed(0), 0);
    }

    private static void framesNotCells() {
        FrameSharer x = Keepers.opened(20, 1);
        x.map(0, 0, 1);
        x.take();
        x.write(0, 0, 1);
        Checks.due("changed by a write of the same", x.changed(0), 1);
        x.back(0);
        x.unmap(0, 0);
        x.map(0, 0, 1);
        Checks.due("changed by a page that came anew", x.changed(0), 1);
        x.back(0);
        x.lend(0, 0, 0, 5);
        Checks.due("changed by a copy alone", x.changed(0), 1);
        x.lend(0, 5, 0, 0);
        Checks.due("a copy of a copy is in the same frame", x.changed(0), 1);
    }

    private static void absentInOne() {
        FrameSharer x = Keepers.opened(20, 1);
        x.map(0, 0, 1);
        x.take();
        x.unmap(0, 0);
        Checks.due("absent now", x.changed(0), 1);
        x.map(0, 7, 1);
        Checks.due("absent then", x.changed(0), 2);
        x.back(0);
        x.lend(0, 1, 0, 0);
        Checks.due("absent now by a lend", x.changed(0), 1);
    }

    private static void absentInBoth() {
        FrameSharer x = Keepers.opened(20, 1);
        x.take();
        Checks.due("no page ever", x.changed(0), 0);
        x.map(0, 3, 1);
        x.unmap(0, 3);
        Checks.due("a page that came and went", x.changed(0), 0);
    }

    private static void spacesOfBoth() {
        FrameSharer x = Keepers.opened(20, 2);
        x.map(0, 0, 1);
        x.map(1, 1, 1);
        x.map(1, 2, 1);
        x.take();
        x.open();
        x.fork(1);
        Checks.due("a fork changes its pages", x.changed(0), 2);
        x.close(0);
        Checks.due("a closed space changes its pages", x.changed(0), 3);
        x.take();
        Checks.due("the later picture", x.changed(1), 0);
        x.close(3);
        Checks.due("the fork is gone, the first picture", x.changed(0), 1);
        Checks.due("the fork is gone, the later picture", x.changed(1), 2);
        x.back(0);
        Checks.due("the later picture after back", x.changed(1), 3);
    }

    private static void goneSpace() {
        for (int pages = 0; pages <= 8; pages++) {
            FrameSharer x = Keepers.opened(20, 6);
            for (int page = 0; page < pages; page++) {
                x.map(5, page, 1);
            }
            x.take();
            x.close(5);
            Checks.due("a space with pages " + pages + " went", x.changed(0), pages);
            x.open();
            Checks.due("an empty one in its place", x.changed(0), pages);
            x.map(5, 7, 1);
            Checks.due("a page in its place", x.changed(0), pages == 8 ? 8 : pages + 1);
        }
    }

    private static void newSpace() {
        FrameSharer x = Keepers.wholeSpace(20, 1);
        x.take();
        x.open();
        Checks.due("an empty space came", x.changed(0), 0);
        x.map(1, 0, 1);
        Checks.due("with a page", x.changed(0), 1);
        Checks.due("a fork came", x.fork(0), 2);
        Checks.due("with eight pages", x.changed(0), 9);
        FrameSharer y = new FrameSharer(1);
        y.take();
        Checks.due("no space then or now", y.changed(0), 0);
        y.open();
        y.map(0, 0, 1);
        Checks.due("no space then", y.changed(0), 1);
        y.close(0);
        Checks.due("it went again", y.changed(0), 0);
    }

    private static void fromNoneToAll() {
        FrameSharer x = Keepers.opened(60, 6);
        for (int page = 0; page < 48; page++) {
            x.map(page / 8, page % 8, page);
        }
        x.take();
        Checks.due("none", x.changed(0), 0);
        for (int page = 0; page < 48; page++) {
            x.unmap(page / 8, page % 8);
            Checks.due("pages " + (page + 1), x.changed(0), page + 1);
        }
        for (int space = 0; space < 6; space++) {
            x.close(space);
        }
        Checks.due("all", x.changed(0), 48);
    }

    private static void changesNothing() {
        Checks.refused("changed since 0", Keepers.BUSY, 5, x -> x.changed(0));
        Checks.refused("changed since 2", Keepers.NO_FRAME_LEFT, 1, x -> x.changed(2));
    }

    private static void missingPicture() {
        Alike.missingPicture("changed", FrameSharer::changed);
        FrameSharer x = Keepers.CROWDED.get();
        Checks.due("changed since the last", x.changed(7), 0);
    }
}
