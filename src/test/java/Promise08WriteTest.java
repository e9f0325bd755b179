/** Promise 8: write. */
public final class Promise08WriteTest {
    private static final Alike.InSpace WRITE = (x, space, address) -> x.write(space, address, 9);

    public static void main(String[] args) {
        Checks.test("The cell at an address becomes v", Promise08WriteTest::becomesV);
        Checks.test("what it was", Promise08WriteTest::whatItWas);
        Checks.test("what it was: also -1, then the cell becomes v", Promise08WriteTest::whatItWasIsMinusOne);
        Checks.test("a frame of its own first, with the same cells", Promise08WriteTest::ownFrame);
        Checks.test("the others stay: in pictures", Promise08WriteTest::picturesStay);
        Checks.test("a frame of its own also for the same value", Promise08WriteTest::sameValue);
        Checks.test("IndexOutOfBoundsException as read", Promise08WriteTest::noAddress);
        Checks.test("NoSuchElementException as read: the space", Promise08WriteTest::missingSpace);
        Checks.test("NoSuchElementException as read: the page", Promise08WriteTest::absentPage);
        Checks.test("the address before space and page", Promise08WriteTest::addressFirst);
        Checks.test("else IllegalStateException as said", Promise08WriteTest::noFrameFree);
        Checks.test("whose frame has other holders: else no frame is wanted", Promise08WriteTest::aloneInFull);
        Checks.test("(also when it is v already)", Promise08WriteTest::noFrameFreeSameValue);
        Checks.test("address, space and page before the frame", Promise08WriteTest::frameLast);
        Checks.end("Promise08WriteTest");
    }

    private static void becomesV() {
        int[] values = {Integer.MIN_VALUE, -1, 0, 1, Integer.MAX_VALUE};
        FrameSharer x = Keepers.wholeSpace(8, 50);
        for (int address : new int[] {0, 15, 16, 63, 64, 111, 112, 127}) {
            for (int v : values) {
                x.write(0, address, v);
                Checks.due("cell at " + address, x.read(0, address), v);
            }
        }
        Checks.due("a cell between", x.read(0, 1) * 100 + x.read(0, 126), 5057);
        Checks.due("no other frame", x.count(0), 8);
    }

    private static void whatItWas() {
        FrameSharer x = Keepers.opened(2, 1);
        x.map(0, 1, 3);
        Checks.due("write", x.write(0, 20, Integer.MAX_VALUE), 3);
        Checks.due("write again", x.write(0, 20, Integer.MIN_VALUE), Integer.MAX_VALUE);
        Checks.due("and again", x.write(0, 20, 0), Integer.MIN_VALUE);
        Checks.due("the cell before", x.read(0, 19), 3);
        Checks.due("the cell after", x.read(0, 21), 3);
    }

    /** Here -1 is a cell and no refusal. */
    private static void whatItWasIsMinusOne() {
        FrameSharer x = Keepers.opened(2, 1);
        x.map(0, 0, -1);
        x.fork(0);
        Checks.due("write over -1", x.write(0, 0, 4), -1);
        Checks.due("the cell", x.read(0, 0), 4);
        Checks.due("the other's cell", x.read(1, 0), -1);
    }

    private static void ownFrame() {
        FrameSharer x = Keepers.opened(3, 1);
        x.map(0, 1, 3);
        x.write(0, 31, 8);
        x.fork(0);
        x.fork(0);
        Checks.due("write in a shared frame", x.write(1, 16, 5), 3);
        Checks.due("frames", x.count(0), 2);
        Checks.due("holders of the writer", x.holders(1, 1), 1);
        Checks.due("holders of the others", x.holders(0, 1), 2);
        Checks.due("the writer's cell", x.read(1, 16), 5);
        for (int cell = 1; cell < 15; cell++) {
            Checks.due("the writer's cell " + cell, x.read(1, 16 + cell), 3);
        }
        Checks.due("the writer's last cell", x.read(1, 31), 8);
        Checks.due("the other's cell", x.read(0, 16), 3);
        Checks.due("the third's cell", x.read(2, 16), 3);
        Checks.due("write alone", x.write(1, 17, 6), 3);
        Checks.due("frames as before", x.count(0), 2);
    }

    private static void picturesStay() {
        FrameSharer x = Keepers.opened(2, 1);
        x.map(0, 0, 1);
        x.take();
        x.write(0, 0, 2);
        Checks.due("a frame for the picture alone", x.count(0), 2);
        Checks.due("changed", x.changed(0), 1);
        x.back(0);
        Checks.due("the picture's cell", x.read(0, 0), 1);
    }

    private static void sameValue() {
        FrameSharer x = Keepers.opened(2, 1);
        x.map(0, 0, 1);
        x.fork(0);
        Checks.due("write of what is there", x.write(0, 0, 1), 1);
        Checks.due("it has a frame of its own", x.holders(0, 0), 1);
        Checks.due("the other has one, too", x.holders(1, 0), 1);
        Checks.due("frames", x.count(0), 2);
    }

    private static void noAddress() {
        Alike.noAddress("write", Keepers.BUSY, WRITE);
        FrameSharer x = Keepers.BUSY.get();
        Checks.due("write at 0", x.write(0, 0, 9), 1);
        Checks.due("write at 127", x.write(0, 127, 9), 3);
    }

    private static void missingSpace() {
        Alike.missingSpace("write", Keepers.BUSY, WRITE);
        Alike.missingSpace("write near 127", Keepers.BUSY, (x, space, at) -> x.write(space, 127 - at, 9));
    }

    private static void absentPage() {
        Alike.absentPage("write", Keepers.BUSY, WRITE);
        FrameSharer x = Keepers.BUSY.get();
        Checks.due("write below the absent pages", x.write(0, 15, 9), 1);
        Checks.due("write above the absent pages", x.write(0, 112, 9), 2);
    }

    private static void addressFirst() {
        Alike.addressFirst("write", Keepers.BUSY, WRITE);
    }

    private static void noFrameFree() {
        FrameSharer x = Keepers.ONE_FRAME_LEFT.get();
        Checks.due("write into the last frame", x.write(0, 0, 9), 1);
        Checks.due("frames in use", x.count(0), x.count(1));
        Checks.dueThrow("write of another", Checks.NO_FRAME, () -> x.write(1, 0, 9));
        x.unmap(0, 0);
        Checks.due("write when one is free again", x.write(1, 0, 9), 1);
        Checks.refusedEach(
                "write, no frame free, at", new int[] {0, 15, 48, 112, 127}, Keepers.NO_FRAME_LEFT,
                Checks.NO_FRAME, (y, at) -> y.write(0, at, 9));
        Checks.refused(
                "write, the other holder is in a picture", Keepers.NO_FRAME_LEFT, Checks.NO_FRAME,
                y -> y.write(3, 80, 9));
    }

    private static void aloneInFull() {
        FrameSharer x = Keepers.NO_FRAME_LEFT.get();
        Checks.due("write alone, no frame free", x.write(3, 0, 9), 6);
        Checks.due("the cell", x.read(3, 0), 9);
        FrameSharer y = Keepers.opened(1, 1);
        y.map(0, 0, 1);
        y.fork(0);
        Checks.dueThrow("write with one other holder", Checks.NO_FRAME, () -> y.write(0, 0, 9));
        y.close(1);
        Checks.due("write when alone again", y.write(0, 0, 9), 1);
        y.take();
        Checks.dueThrow("write with one in a picture", Checks.NO_FRAME, () -> y.write(0, 0, 8));
        y.drop(0);
        Checks.due("write when the picture went", y.write(0, 0, 8), 9);
    }

    private static void noFrameFreeSameValue() {
        Checks.refused(
                "write of what is there", Keepers.NO_FRAME_LEFT, Checks.NO_FRAME, x -> x.write(0, 0, 1));
        Checks.refused(
                "write of what is there at 127", Keepers.NO_FRAME_LEFT, Checks.NO_FRAME,
                x -> x.write(0, 127, 3));
        Checks.due(
                "write of what is there, one frame left", Keepers.ONE_FRAME_LEFT.get().write(0, 0, 1), 1);
        Checks.refused("write of what is there, alone", Keepers.NO_FRAME_LEFT, 6, x -> x.write(3, 0, 6));
    }

    private static void frameLast() {
        Alike.noAddress("write", Keepers.NO_FRAME_LEFT, WRITE);
        Alike.missingSpace("write", Keepers.NO_FRAME_LEFT, WRITE);
        Alike.absentPage("write", Keepers.NO_FRAME_LEFT, WRITE);
    }
}
