/** Promise 7: read. */
public final class Promise07ReadTest {
    public static void main(String[] args) {
        Checks.test("The cell at an address", Promise07ReadTest::everyAddress);
        Checks.test("The cell at an address: nothing else changes", Promise07ReadTest::changesNothing);
        Checks.test("IndexOutOfBoundsException when it is not 0 .. 127", Promise07ReadTest::noAddress);
        Checks.test("NoSuchElementException when the space isn't there", Promise07ReadTest::missingSpace);
        Checks.test("or the page is absent", Promise07ReadTest::absentPage);
        Checks.test("the address before space and page", Promise07ReadTest::addressFirst);
        Checks.end("Promise07ReadTest");
    }

    private static void everyAddress() {
        FrameSharer x = Keepers.wholeSpace(8, 0);
        for (int address = 0; address < 128; address++) {
            x.write(0, address, 1000 + address);
        }
        for (int address = 0; address < 128; address++) {
            Checks.due("address " + address, x.read(0, address), 1000 + address);
        }
    }

    private static void changesNothing() {
        Checks.refused("read of a shared page", Keepers.BUSY, 1, x -> x.read(0, 0));
        Checks.refused("read, no frame free", Keepers.NO_FRAME_LEFT, 3, x -> x.read(0, 127));
    }

    private static void noAddress() {
        Checks.refusedEach(
                "read at", Checks.NO_ADDRESSES, Keepers.BUSY, Checks.OUTSIDE, (x, at) -> x.read(0, at));
        FrameSharer x = Keepers.BUSY.get();
        Checks.due("read at 0", x.read(0, 0), 1);
        Checks.due("read at 127", x.read(0, 127), 3);
        Checks.due("read at 126", x.read(0, 126), 2);
    }

    private static void missingSpace() {
        Checks.refusedEach(
                "read in space", Keepers.MISSING_SPACES, Keepers.BUSY, Checks.MISSING,
                (x, space) -> x.read(space, 0));
        Checks.refusedEach(
                "read of the last cell in space", new int[] {-1, 2, 4, 5, 6}, Keepers.BUSY, Checks.MISSING,
                (x, space) -> x.read(space, 127));
    }

    private static void absentPage() {
        Checks.refusedEach(
                "read at", new int[] {16, 47, 64, 111}, Keepers.BUSY, Checks.MISSING, (x, at) -> x.read(0, at));
        FrameSharer x = Keepers.BUSY.get();
        Checks.due("read below the absent pages", x.read(0, 15), 1);
        Checks.due("read between the absent pages", x.read(0, 48) + x.read(0, 63), 2);
        Checks.due("read above the absent pages", x.read(0, 112), 2);
        Checks.refused(
                "read of an empty space", Keepers.CROWDED, Checks.MISSING, y -> y.read(2, 0));
    }

    private static void addressFirst() {
        Checks.refusedEach(
                "read in space 2 at", Checks.NO_ADDRESSES, Keepers.BUSY, Checks.OUTSIDE,
                (x, at) -> x.read(2, at));
        Checks.refusedEach(
                "read at 128 in space", Keepers.MISSING_SPACES, Keepers.BUSY, Checks.OUTSIDE,
                (x, space) -> x.read(space, 128));
        Checks.refusedEach(
                "read of an empty space at", Checks.NO_ADDRESSES, () -> Keepers.opened(1, 1), Checks.OUTSIDE,
                (x, at) -> x.read(0, at));
    }
}
