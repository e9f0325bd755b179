/** Promises 5 to 8: map, unmap, read, write. */
public final class PagesTest {
    public static void main(String[] args) {
        mapFillsAllCells();
        mapOfPresentPage();
        mapWithoutFrame();
        mapClearsAnOldFrame();
        mapOrderOfExceptions();
        unmapMakesAbsent();
        unmapLeavesOthers();
        unmapOrderOfExceptions();
        readEveryAddress();
        readOrderOfExceptions();
        writeTellsWhatWas();
        writeInASharedFrame();
        writeLeavesThePicture();
        writeWithoutFrame();
        writeOfTheSameValue();
        writeOrderOfExceptions();
        Checks.end("PagesTest");
    }

    private static void mapFillsAllCells() {
        FrameSharer x = Checks.keeper(5, 2);
        Checks.due("map", x.map(1, 7, Integer.MIN_VALUE), true);
        for (int cell = 0; cell < 16; cell++) {
            Checks.due("cell " + cell, x.read(1, 112 + cell), Integer.MIN_VALUE);
        }
        Checks.due("map of page 0", x.map(1, 0, 3), true);
        Checks.due("the other page keeps its cells", x.read(1, 127), Integer.MIN_VALUE);
        Checks.due("frames after two maps", x.count(0), 2);
        Checks.due("holders after map", x.holders(1, 7), 1);
        Checks.due("no page in the other space", x.holders(0, 7), 0);
    }

    private static void mapOfPresentPage() {
        FrameSharer x = Checks.keeper(2, 1);
        x.map(0, 4, 9);
        Checks.dueUnchanged("map of a present page", x, false, () -> x.map(0, 4, 1));
        x.map(0, 5, 9);
        Checks.dueUnchanged("map of a present page, no frame free", x, false, () -> x.map(0, 4, 1));
    }

    private static void mapWithoutFrame() {
        FrameSharer x = Checks.keeper(2, 2);
        x.map(0, 0, 1);
        x.map(0, 1, 2);
        Checks.dueThrowUnchanged("map, no frame free", x, Checks.NO_FRAME, () -> x.map(1, 0, 1));
        x.unmap(0, 0);
        Checks.due("map after unmap", x.map(1, 0, 1), true);
        x.take();
        x.close(0);
        x.close(1);
        x.open();
        Checks.dueThrow("map while a picture has all", Checks.NO_FRAME, () -> x.map(0, 0, 1));
        x.drop(0);
        Checks.due("map after drop", x.map(0, 0, 1), true);
    }

    private static void mapClearsAnOldFrame() {
        FrameSharer x = Checks.keeper(1, 1);
        x.map(0, 0, 5);
        x.write(0, 9, 77);
        x.unmap(0, 0);
        x.map(0, 3, 6);
        for (int cell = 0; cell < 16; cell++) {
            Checks.due("cell in a frame used again", x.read(0, 48 + cell), 6);
        }
    }

    private static void mapOrderOfExceptions() {
        FrameSharer x = Checks.keeper(1, 1);
        x.map(0, 0, 1);
        Checks.dueThrow("map: space before page", Checks.MISSING, () -> x.map(1, 8, 0));
        Checks.dueThrow("map: page before frame", Checks.OUTSIDE, () -> x.map(0, 8, 0));
        Checks.dueThrowUnchanged("map: page -1", x, Checks.OUTSIDE, () -> x.map(0, -1, 0));
        Checks.dueThrow("map: space before frame", Checks.MISSING, () -> x.map(1, 1, 0));
        for (int far : Checks.FAR) {
            Checks.dueThrow("map: space " + far, Checks.MISSING, () -> x.map(far, 0, 0));
            Checks.dueThrow("map: page " + far, Checks.OUTSIDE, () -> x.map(0, far, 0));
        }
    }

    private static void unmapMakesAbsent() {
        FrameSharer x = Checks.keeper(3, 1);
        x.map(0, 0, 1);
        x.map(0, 7, 1);
        Checks.due("unmap", x.unmap(0, 7), true);
        Checks.due("holders after unmap", x.holders(0, 7), 0);
        Checks.due("frames after unmap", x.count(0), 1);
        Checks.due("pages after unmap", x.count(4), 1);
        Checks.dueThrow("read after unmap", Checks.MISSING, () -> x.read(0, 112));
        Checks.dueUnchanged("unmap of an absent page", x, false, () -> x.unmap(0, 7));
        Checks.due("map after unmap", x.map(0, 7, 2), true);
    }

    private static void unmapLeavesOthers() {
        FrameSharer x = Checks.keeper(3, 1);
        x.map(0, 2, 4);
        x.fork(0);
        x.take();
        Checks.due("unmap of a shared page", x.unmap(0, 2), true);
        Checks.due("the fork's cell", x.read(1, 32), 4);
        Checks.due("holders that stay", x.holders(1, 2), 3);
        Checks.due("unmap of the fork's", x.unmap(1, 2), true);
        Checks.due("the picture's frame stays", x.count(0), 1);
    }

    private static void unmapOrderOfExceptions() {
        FrameSharer x = Checks.keeper(2, 1);
        x.map(0, 0, 1);
        Checks.dueThrow("unmap: space before page", Checks.MISSING, () -> x.unmap(1, 8));
        Checks.dueThrowUnchanged("unmap: page 8", x, Checks.OUTSIDE, () -> x.unmap(0, 8));
        for (int far : Checks.FAR) {
            Checks.dueThrow("unmap: space " + far, Checks.MISSING, () -> x.unmap(far, 0));
            Checks.dueThrow("unmap: page " + far, Checks.OUTSIDE, () -> x.unmap(0, far));
        }
    }

    private static void readEveryAddress() {
        FrameSharer x = Checks.keeper(8, 1);
        for (int page = 0; page < 8; page++) {
            x.map(0, page, 0);
        }
        for (int address = 0; address < 128; address++) {
            x.write(0, address, 1000 + address);
        }
        for (int address = 0; address < 128; address++) {
            Checks.due("address " + address, x.read(0, address), 1000 + address);
        }
    }

    private static void readOrderOfExceptions() {
        FrameSharer x = Checks.keeper(2, 1);
        x.map(0, 7, 1);
        Checks.due("read of the last address", x.read(0, 127), 1);
        Checks.dueThrow("read: address 128", Checks.OUTSIDE, () -> x.read(0, 128));
        Checks.dueThrow("read: address before space", Checks.OUTSIDE, () -> x.read(3, -1));
        Checks.dueThrow("read: missing space", Checks.MISSING, () -> x.read(3, 112));
        Checks.dueThrowUnchanged("read: absent page", x, Checks.MISSING, () -> x.read(0, 111));
        for (int far : Checks.FAR) {
            Checks.dueThrow("read: space " + far, Checks.MISSING, () -> x.read(far, 0));
            Checks.dueThrow("read: address " + far, Checks.OUTSIDE, () -> x.read(0, far));
            Checks.dueThrow("read: both " + far, Checks.OUTSIDE, () -> x.read(far, far));
        }
    }

    private static void writeTellsWhatWas() {
        FrameSharer x = Checks.keeper(2, 1);
        x.map(0, 1, 3);
        Checks.due("write", x.write(0, 20, Integer.MAX_VALUE), 3);
        Checks.due("write again", x.write(0, 20, -1), Integer.MAX_VALUE);
        Checks.due("read", x.read(0, 20), -1);
        Checks.due("the cell before", x.read(0, 19), 3);
        Checks.due("the cell after", x.read(0, 21), 3);
        Checks.due("no other frame", x.count(0), 1);
    }

    private static void writeInASharedFrame() {
        FrameSharer x = Checks.keeper(3, 1);
        x.map(0, 1, 3);
        x.write(0, 31, 8);
        x.fork(0);
        x.fork(0);
        Checks.due("write in a shared frame", x.write(1, 16, 5), 3);
        Checks.due("frames", x.count(0), 2);
        Checks.due("holders of the writer", x.holders(1, 1), 1);
        Checks.due("holders of the others", x.holders(0, 1), 2);
        Checks.due("the writer's cell", x.read(1, 16), 5);
        Checks.due("the writer's other cell", x.read(1, 31), 8);
        Checks.due("the other's cell", x.read(0, 16), 3);
        Checks.due("the third's cell", x.read(2, 16), 3);
        Checks.due("write alone", x.write(1, 17, 6), 3);
        Checks.due("frames as before", x.count(0), 2);
    }

    private static void writeLeavesThePicture() {
        FrameSharer x = Checks.keeper(2, 1);
        x.map(0, 0, 1);
        x.take();
        x.write(0, 0, 2);
        Checks.due("a frame for the picture alone", x.count(0), 2);
        x.back(0);
        Checks.due("the picture's cell", x.read(0, 0), 1);
    }

    private static void writeWithoutFrame() {
        FrameSharer x = Checks.keeper(2, 1);
        x.map(0, 0, 1);
        x.map(0, 1, 2);
        Checks.due("write alone, no frame free", x.write(0, 16, 7), 2);
        x.fork(0);
        Checks.dueThrowUnchanged("write, no frame free", x, Checks.NO_FRAME, () -> x.write(1, 0, 4));
        x.unmap(1, 1);
        Checks.due("write when alone again", x.write(0, 17, 9), 2);
        x.unmap(0, 1);
        Checks.due("write after a frame is free", x.write(1, 0, 4), 1);
        Checks.due("the other's cell", x.read(0, 0), 1);
    }

    private static void writeOfTheSameValue() {
        FrameSharer x = Checks.keeper(2, 1);
        x.map(0, 0, 1);
        x.fork(0);
        Checks.due("write of what is there", x.write(0, 0, 1), 1);
        Checks.due("it has a frame of its own", x.holders(0, 0), 1);
        Checks.due("frames", x.count(0), 2);
        x.take();
        Checks.dueThrowUnchanged("the same, no frame free", x, Checks.NO_FRAME, () -> x.write(0, 0, 1));
    }

    private static void writeOrderOfExceptions() {
        FrameSharer x = Checks.keeper(1, 1);
        x.map(0, 7, 1);
        x.fork(0);
        Checks.dueThrow("write: address before space", Checks.OUTSIDE, () -> x.write(3, 128, 0));
        Checks.dueThrow("write: address before frame", Checks.OUTSIDE, () -> x.write(0, 128, 0));
        Checks.dueThrow("write: missing space", Checks.MISSING, () -> x.write(3, 112, 0));
        Checks.dueThrowUnchanged("write: absent page", x, Checks.MISSING, () -> x.write(0, 111, 0));
        Checks.dueThrow("write: no frame", Checks.NO_FRAME, () -> x.write(0, 112, 0));
        for (int far : Checks.FAR) {
            Checks.dueThrow("write: space " + far, Checks.MISSING, () -> x.write(far, 0, 0));
            Checks.dueThrow("write: address " + far, Checks.OUTSIDE, () -> x.write(0, far, 0));
            Checks.dueThrow("write: both " + far, Checks.OUTSIDE, () -> x.write(far, far, 0));
        }
    }
}
