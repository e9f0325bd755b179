/** Promise 7: read. */
public final class Promise07ReadTest {
    public static void main(String[] args) {
        Checks.test("The cell at an address", Promise07ReadTest::everyAddress);
        Checks.test("The cell at an address: nothing else changes", Promise07ReadTest::changesNothing);
        Checks.test("IndexOutOfBoundsException when it is not 0 .. 127", Promise07ReadTest::noAddress);
        Checks.test("NoSuchElementException when the space isn't there", Promise07ReadTest::missingSpace);
        Checks.test("or the page is absent", Promise07ReadTest::absentPage);
        Checks.test("the address before space and page", Promise07ReadTest::addressFirst);
        Checks.end("Promise07ReadTest");
    }

    private static void everyAddress() {
        FrameSharer x = Keepers.wholeSpace(8, 0);
        for (int address = 0; address < 128; address++) {
            x.write(0, address, 1000 + address);
        }
        for (int address = 0; address < 128; address++) {
            Checks.due("address " + address, x.read(0, address), 1000 + address);
        }
    }

    private static void changesNothing() {
        Checks.refused("read of a shared page", Keepers.BUSY, 1, x -> x.read(0, 0));
        Checks.refused("read, no frame free", Keepers.NO_FRAME_LEFT, 3, x -> x.read(0, 127));
    }

    private static void noAddress() {
        Alike.noAddress("read", Keepers.BUSY, FrameSharer::read);
        FrameSharer x = Keepers.BUSY.get();
        Checks.due("read at 0", x.read(0, 0), 1);
        Checks.due("read at 127", x.read(0, 127), 3);
        Checks.due("read at 126", x.read(0, 126), 2);
    }

    private static void missingSpace() {
        Alike.missingSpace("read", Keepers.BUSY, FrameSharer::read);
        Alike.missingSpace("read near 127", Keepers.BUSY, (x, space, at) -> x.read(space, 127 - at));
    }

    private static void absentPage() {
        Alike.absentPage("read", Keepers.BUSY, FrameSharer::read);
        FrameSharer x = Keepers.BUSY.get();
        Checks.due("read below the absent pages", x.read(0, 15), 1);
        Checks.due("read between the absent pages", x.read(0, 48) + x.read(0, 63), 2);
        Checks.due("read above the absent pages", x.read(0, 112), 2);
    }

    private static void addressFirst() {
        Alike.addressFirst("read", Keepers.BUSY, FrameSharer::read);
    }
}
