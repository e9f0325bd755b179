/** Promises 1 to 4 and 17: a new object, open, fork, close, isThere. */
public final class SpacesTest {
    public static void main(String[] args) {
        newObject();
        frameNumberIsTheNearest();
        openGivesTheLeast();
        openWhenAllAreThere();
        openedAfterCloseIsEmpty();
        forkSharesAllPages();
        forkGivesTheLeast();
        forkNeedsNoFrame();
        forkWhenAllAreThere();
        forkOfMissingSpace();
        closeTellsItsPages();
        closeGivesFramesBack();
        closeOfMissingSpace();
        isThereForAllNumbers();
        Checks.end("SpacesTest");
    }

    private static void newObject() {
        FrameSharer x = new FrameSharer(7);
        Checks.due("new: frames in use", x.count(0), 0);
        Checks.due("new: frames", x.count(1), 7);
        Checks.due("new: spaces", x.count(2), 0);
        Checks.due("new: pictures", x.count(3), 0);
        Checks.due("new: pages", x.count(4), 0);
        for (int i = 0; i < 8; i++) {
            int n = i;
            Checks.due("new: isThere " + n, x.isThere(n), false);
            Checks.dueThrow("new: back " + n, Checks.MISSING, () -> x.back(n));
        }
    }

    private static void frameNumberIsTheNearest() {
        int[][] pairs = {
            {1, 1}, {2, 2}, {59, 59}, {60, 60}, {61, 60}, {0, 1}, {-1, 1},
            {Integer.MIN_VALUE, 1}, {Integer.MAX_VALUE, 60},
        };
        for (int[] pair : pairs) {
            FrameSharer x = Checks.keeper(pair[0], 6);
            Checks.due("frames of " + pair[0], x.count(1), pair[1]);
            Checks.due("frames to be had of " + pair[0], framesUntilFull(x), pair[1]);
            Checks.due("frames in use of " + pair[0], x.count(0), pair[1]);
        }
    }

    /** The spaces alone have but 48 pages; writes away from a picture want the frames beyond. */
    private static int framesUntilFull(FrameSharer x) {
        int frames = 0;
        for (int i = 0; i < 48; i++) {
            int space = i / 8;
            int page = i % 8;
            frames += Checks.outcome(() -> x.map(space, page, 1)).equals("true") ? 1 : 0;
        }
        x.take();
        for (int i = 0; i < 48; i++) {
            int space = i / 8;
            int page = i % 8;
            frames += Checks.outcome(() -> x.write(space, page * 16, 2)).equals("1") ? 1 : 0;
        }
        return frames;
    }

    private static void openGivesTheLeast() {
        FrameSharer x = Checks.keeper(3, 0);
        for (int space = 0; space < 6; space++) {
            Checks.due("open", x.open(), space);
            Checks.due("there after open", x.isThere(space), true);
            Checks.due("spaces after open", x.count(2), space + 1);
        }
        x.close(4);
        x.close(2);
        Checks.due("open in the gap", x.open(), 2);
        Checks.due("open in the next gap", x.open(), 4);
    }

    private static void openWhenAllAreThere() {
        FrameSharer x = Checks.keeper(3, 6);
        x.map(5, 5, 5);
        Checks.dueUnchanged("open of a seventh", x, -1, x::open);
    }

    private static void openedAfterCloseIsEmpty() {
        FrameSharer x = Checks.keeper(8, 2);
        for (int page = 0; page < 8; page++) {
            x.map(0, page, page);
        }
        x.close(0);
        Checks.due("open again", x.open(), 0);
        for (int page = 0; page < 8; page++) {
            Checks.due("no page after open again", x.holders(0, page), 0);
        }
        Checks.due("pages after open again", x.count(4), 0);
    }

    private static void forkSharesAllPages() {
        FrameSharer x = Checks.keeper(9, 1);
        for (int page = 0; page < 8; page += 2) {
            x.map(0, page, page + 10);
            x.write(0, page * 16 + 15, -page);
        }
        Checks.due("fork", x.fork(0), 1);
        Checks.due("frames after fork", x.count(0), 4);
        Checks.due("pages after fork", x.count(4), 8);
        for (int page = 0; page < 8; page++) {
            boolean there = page % 2 == 0;
            Checks.due("holders after fork, page " + page, x.holders(1, page), there ? 2 : 0);
            if (there) {
                Checks.due("first cell after fork", x.read(1, page * 16), page + 10);
                Checks.due("last cell after fork", x.read(1, page * 16 + 15), -page);
            }
        }
    }

    private static void forkGivesTheLeast() {
        FrameSharer x = Checks.keeper(9, 5);
        x.map(4, 3, 1);
        x.close(1);
        x.close(0);
        Checks.due("fork in the first gap", x.fork(4), 0);
        Checks.due("fork of a fork", x.fork(0), 1);
        Checks.due("fork at the end", x.fork(1), 5);
        Checks.due("holders after three forks", x.holders(5, 3), 4);
        x.close(4);
        Checks.due("holders after the first one went", x.holders(5, 3), 3);
    }

    private static void forkNeedsNoFrame() {
        FrameSharer x = Checks.keeper(1, 1);
        x.map(0, 0, 8);
        Checks.due("fork with all frames in use", x.fork(0), 1);
        Checks.due("its cell", x.read(1, 0), 8);
    }

    private static void forkWhenAllAreThere() {
        FrameSharer x = Checks.keeper(4, 6);
        x.map(3, 3, 3);
        Checks.dueUnchanged("fork of a seventh", x, -1, () -> x.fork(3));
        Checks.dueThrow("fork of space 6 when all are there", Checks.MISSING, () -> x.fork(6));
    }

    private static void forkOfMissingSpace() {
        FrameSharer x = Checks.keeper(4, 2);
        x.map(0, 1, 1);
        Checks.dueThrowUnchanged("fork of a missing space", x, Checks.MISSING, () -> x.fork(2));
        Checks.dueThrow("fork of space 6", Checks.MISSING, () -> x.fork(6));
        for (int far : Checks.FAR) {
            Checks.dueThrow("fork of " + far, Checks.MISSING, () -> x.fork(far));
        }
    }

    private static void closeTellsItsPages() {
        FrameSharer x = Checks.keeper(20, 3);
        for (int page = 0; page < 8; page++) {
            x.map(0, page, 1);
        }
        x.map(1, 7, 1);
        Checks.due("close of a full space", x.close(0), 8);
        Checks.due("close of one page", x.close(1), 1);
        Checks.due("close of no page", x.close(2), 0);
        Checks.due("spaces after close", x.count(2), 0);
        Checks.due("isThere after close", x.isThere(0), false);
    }

    private static void closeGivesFramesBack() {
        FrameSharer x = Checks.keeper(20, 1);
        x.map(0, 0, 1);
        x.fork(0);
        x.map(0, 1, 1);
        x.take();
        x.map(0, 2, 1);
        Checks.due("frames before close", x.count(0), 3);
        Checks.due("close with shared pages", x.close(0), 3);
        Checks.due("frames after close", x.count(0), 2);
        Checks.due("holders that stay", x.holders(1, 0), 3);
        Checks.due("pages that stay", x.count(4), 1);
    }

    private static void closeOfMissingSpace() {
        FrameSharer x = Checks.keeper(4, 2);
        x.map(1, 0, 1);
        Checks.dueThrowUnchanged("close of a missing space", x, Checks.MISSING, () -> x.close(5));
        x.close(0);
        Checks.dueThrow("close twice", Checks.MISSING, () -> x.close(0));
        Checks.dueThrow("close of space 6", Checks.MISSING, () -> x.close(6));
        for (int far : Checks.FAR) {
            Checks.dueThrow("close of " + far, Checks.MISSING, () -> x.close(far));
        }
    }

    private static void isThereForAllNumbers() {
        FrameSharer x = Checks.keeper(4, 6);
        x.close(3);
        x.take();
        for (int space = 0; space < 6; space++) {
            Checks.due("isThere " + space, x.isThere(space), space != 3);
        }
        for (int space = 6; space < 60; space++) {
            Checks.due("isThere " + space, x.isThere(space), false);
        }
        for (int far : Checks.FAR) {
            Checks.due("isThere " + far, x.isThere(far), false);
        }
    }
}
