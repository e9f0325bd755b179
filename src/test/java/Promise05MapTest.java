/** Promise 5: map. */
public final class Promise05MapTest {
    public static void main(String[] args) {
        Checks.test("An absent page is there, all cells v", Promise05MapTest::fillsAllCells);
        Checks.test("all cells v: the least and the greatest int", Promise05MapTest::allInts);
        Checks.test("all cells v: in a frame used before", Promise05MapTest::oldFrameIsFilled);
        Checks.test("false when it is there already", Promise05MapTest::thereAlready);
        Checks.test("(Then also when no frame is free.)", Promise05MapTest::thereAlreadyNoFrameFree);
        Checks.test("NoSuchElementException when the space isn't there", Promise05MapTest::missingSpace);
        Checks.test("IndexOutOfBoundsException when page is not 0 .. 7", Promise05MapTest::noPage);
        Checks.test("the space before the page", Promise05MapTest::spaceBeforePage);
        Checks.test("else IllegalStateException as said", Promise05MapTest::noFrameFree);
        Checks.test("space and page before the frame", Promise05MapTest::spaceAndPageBeforeFrame);
        Checks.end("Promise05MapTest");
    }

    private static void fillsAllCells() {
        for (int corner = 0; corner < 2; corner++) {
            int space = corner * 5;
            int page = corner * 7;
            FrameSharer x = Keepers.opened(5, 6);
            Checks.due("map " + space + "." + page, x.map(space, page, 9), true);
            for (int cell = 0; cell < 16; cell++) {
                Checks.due("cell " + cell, x.read(space, page * 16 + cell), 9);
            }
            Checks.due("another page", x.map(space, 7 - page, 3), true);
            Checks.due("the first page keeps its cells", x.read(space, page * 16), 9);
            Checks.due("frames after two maps", x.count(0), 2);
            Checks.due("pages after two maps", x.count(4), 2);
            Checks.due("holders after map", x.holders(space, page), 1);
            Checks.due("no page in another space", x.holders(5 - space, page), 0);
        }
    }

    private static void allInts() {
        int[] values = {Integer.MIN_VALUE, -65536, -1, 0, 1, 255, 256, Integer.MAX_VALUE};
        FrameSharer x = Keepers.opened(8, 1);
        for (int page = 0; page < 8; page++) {
            Checks.due("map of " + values[page], x.map(0, page, values[page]), true);
        }
        for (int page = 0; page < 8; page++) {
            Checks.due("its first cell", x.read(0, page * 16), values[page]);
            Checks.due("its last cell", x.read(0, page * 16 + 15), values[page]);
        }
    }

    private static void oldFrameIsFilled() {
        FrameSharer x = Keepers.opened(1, 1);
        x.map(0, 0, 5);
        for (int cell = 0; cell < 16; cell++) {
            x.write(0, cell, 70 + cell);
        }
        x.unmap(0, 0);
        x.map(0, 3, 6);
        for (int cell = 0; cell < 16; cell++) {
            Checks.due("cell in a frame used again", x.read(0, 48 + cell), 6);
        }
    }

    private static void thereAlready() {
        Checks.refused("map of a page alone", Keepers.BUSY, false, x -> x.map(3, 0, 8));
        Checks.refused("map of a page shared with a picture", Keepers.BUSY, false, x -> x.map(3, 5, 8));
        Checks.refused("map of a shared first page", Keepers.BUSY, false, x -> x.map(0, 0, 8));
        Checks.refused("map of a shared last page", Keepers.BUSY, false, x -> x.map(0, 7, 8));
        Checks.refused("map with the cells that it has", Keepers.BUSY, false, x -> x.map(0, 3, 1));
        FrameSharer x = Keepers.BUSY.get();
        Checks.due("map of the page before", x.map(0, 6, 8), true);
        Checks.due("map of the page after", x.map(0, 1, 8), true);
    }

    private static void thereAlreadyNoFrameFree() {
        Checks.refused("map of a page alone", Keepers.NO_FRAME_LEFT, false, x -> x.map(3, 0, 8));
        Checks.refused("map of a shared first page", Keepers.NO_FRAME_LEFT, false, x -> x.map(0, 0, 8));
        Checks.refused("map of a last page", Keepers.NO_FRAME_LEFT, false, x -> x.map(1, 7, 8));
    }

    private static void missingSpace() {
        Alike.missingSpace("map", Keepers.BUSY, (x, space, page) -> x.map(space, page, 8));
    }

    private static void noPage() {
        Alike.noPage("map", Keepers.BUSY, (x, space, page) -> x.map(space, page, 8));
        FrameSharer x = Keepers.opened(2, 1);
        Checks.due("map of page 0", x.map(0, 0, 8), true);
        Checks.due("map of page 7", x.map(0, 7, 8), true);
    }

    private static void spaceBeforePage() {
        Alike.spaceBeforePage("map", Keepers.BUSY, (x, space, page) -> x.map(space, page, 8));
    }

    private static void noFrameFree() {
        FrameSharer x = Keepers.ONE_FRAME_LEFT.get();
        Checks.due("map into the last frame", x.map(0, 1, 8), true);
        Checks.due("frames in use", x.count(0), x.count(1));
        Checks.dueThrow("map of one more", Checks.NO_FRAME, () -> x.map(0, 2, 8));
        x.unmap(0, 1);
        Checks.due("map when one is free again", x.map(0, 2, 8), true);
        Checks.refused("map, no frame free", Keepers.NO_FRAME_LEFT, Checks.NO_FRAME, y -> y.map(0, 1, 8));
        Checks.refused(
                "map of cells that there are", Keepers.NO_FRAME_LEFT, Checks.NO_FRAME, y -> y.map(3, 7, 1));
        Checks.refused(
                "map, pictures have the frames",
                () -> {
                    FrameSharer y = Keepers.wholeSpace(8, 1);
                    y.take();
                    y.close(0);
                    y.open();
                    return y;
                },
                Checks.NO_FRAME, y -> y.map(0, 0, 8));
    }

    private static void spaceAndPageBeforeFrame() {
        Alike.missingSpace("map", Keepers.NO_FRAME_LEFT, (x, space, page) -> x.map(space, page, 8));
        Alike.noPage("map", Keepers.NO_FRAME_LEFT, (x, space, page) -> x.map(space, page, 8));
        Alike.spaceBeforePage("map", Keepers.NO_FRAME_LEFT, (x, space, page) -> x.map(space, page, 8));
    }
}
