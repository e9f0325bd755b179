/** Promise 4: close. */
public final class Promise04CloseTest {
    public static void main(String[] args) {
        Checks.test("A space goes", Promise04CloseTest::goes);
        Checks.test("with its pages", Promise04CloseTest::pagesGo);
        Checks.test("how many it had", Promise04CloseTest::howMany);
        Checks.test("NoSuchElementException when it isn't there", Promise04CloseTest::missingSpace);
        Checks.test("when it isn't there: any more", Promise04CloseTest::closedTwice);
        Checks.end("Promise04CloseTest");
    }

    private static void goes() {
        for (int space = 0; space < 6; space++) {
            FrameSharer x = Keepers.opened(1, 6);
            Checks.due("close " + space, x.close(space), 0);
            for (int other = 0; other < 6; other++) {
                Checks.due("isThere " + other, x.isThere(other), other != space);
            }
            Checks.due("spaces", x.count(2), 5);
        }
    }

    private static void pagesGo() {
        FrameSharer x = Keepers.opened(20, 1);
        x.map(0, 0, 1);
        x.fork(0);
        x.map(0, 1, 1);
        x.take();
        x.map(0, 2, 1);
        Checks.due("frames before close", x.count(0), 3);
        Checks.due("close with shared pages", x.close(0), 3);
        Checks.due("frames after close", x.count(0), 2);
        Checks.due("holders that stay", x.holders(1, 0), 3);
        Checks.due("pages that stay", x.count(4), 1);
        Checks.due("the fork's cell", x.read(1, 0), 1);
    }

    private static void howMany() {
        for (int pages = 0; pages <= 8; pages++) {
            FrameSharer x = Keepers.opened(16, 2);
            x.map(1, 7, 1);
            for (int page = 0; page < pages; page++) {
                x.map(0, 7 - page, 1);
            }
            Checks.due("close with pages " + pages, x.close(0), pages);
            Checks.due("pages of the other", x.count(4), 1);
        }
    }

    private static void missingSpace() {
        Checks.refusedEach(
                "close", Keepers.MISSING_SPACES, Keepers.BUSY, Checks.MISSING, FrameSharer::close);
        Checks.refusedEach(
                "close in a new one", new int[] {-1, 0, 5, 6}, () -> new FrameSharer(2), Checks.MISSING,
                FrameSharer::close);
    }

    private static void closedTwice() {
        for (int space : new int[] {0, 1, 3}) {
            Checks.refused(
                    "close twice " + space, Keepers.after(Keepers.BUSY, x -> x.close(space)),
                    Checks.MISSING, x -> x.close(space));
        }
        FrameSharer x = Keepers.opened(1, 6);
        x.close(5);
        Checks.dueThrow("close of the last one twice", Checks.MISSING, () -> x.close(5));
        x.open();
        Checks.due("close when it is there again", x.close(5), 0);
    }
}
