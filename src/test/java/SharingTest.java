/** Promises 9, 10 and 14: lend, join, holders. */
public final class SharingTest {
    private interface TwoPages {
        Object call(int space, int page, int other, int place);
    }

    public static void main(String[] args) {
        lendMakesACopy();
        lendOverAPresentPage();
        lendOfAnAbsentPage();
        lendThatChangesNothing();
        lendNeedsNoFrame();
        joinMovesAllHolders();
        joinMovesPictures();
        joinBothWays();
        joinOfDifferentCells();
        joinThatIsNone();
        wrongPagesAndSpaces();
        holdersCountsAll();
        holdersOrderOfExceptions();
        Checks.end("SharingTest");
    }

    private static void lendMakesACopy() {
        FrameSharer x = Checks.keeper(3, 2);
        x.map(0, 2, 5);
        x.write(0, 33, 6);
        Checks.due("lend to an absent page", x.lend(0, 2, 1, 7), true);
        Checks.due("frames after lend", x.count(0), 1);
        Checks.due("holders after lend", x.holders(1, 7), 2);
        Checks.due("cell after lend", x.read(1, 113), 6);
        Checks.due("lend within a space", x.lend(0, 2, 0, 3), true);
        Checks.due("holders after two", x.holders(0, 2), 3);
        x.write(1, 113, 8);
        Checks.due("the lender's cell stays", x.read(0, 33), 6);
    }

    private static void lendOverAPresentPage() {
        FrameSharer x = Checks.keeper(3, 2);
        x.map(0, 0, 5);
        x.map(1, 0, 5);
        Checks.due("lend over another frame", x.lend(0, 0, 1, 0), true);
        Checks.due("its frame is free", x.count(0), 1);
        Checks.due("holders", x.holders(0, 0), 2);
        x.map(0, 1, 9);
        x.fork(0);
        Checks.due("lend over a shared frame", x.lend(0, 0, 0, 1), true);
        Checks.due("the fork keeps its page", x.read(2, 16), 9);
        Checks.due("the fork is alone", x.holders(2, 1), 1);
    }

    private static void lendOfAnAbsentPage() {
        FrameSharer x = Checks.keeper(3, 2);
        x.map(1, 4, 5);
        Checks.due("lend of an absent page", x.lend(0, 0, 1, 4), true);
        Checks.due("the page is absent", x.holders(1, 4), 0);
        Checks.due("the frame is free", x.count(0), 0);
        Checks.due("no page is left", x.count(4), 0);
        Checks.dueUnchanged("lend of absent to absent", x, false, () -> x.lend(0, 0, 1, 4));
    }

    private static void lendThatChangesNothing() {
        FrameSharer x = Checks.keeper(3, 1);
        x.map(0, 0, 5);
        x.fork(0);
        Checks.dueUnchanged("lend of the same frame", x, false, () -> x.lend(0, 0, 1, 0));
        Checks.dueUnchanged("lend to itself", x, false, () -> x.lend(0, 0, 0, 0));
    }

    private static void lendNeedsNoFrame() {
        FrameSharer x = Checks.keeper(1, 1);
        x.map(0, 0, 5);
        Checks.due("lend with all frames in use", x.lend(0, 0, 0, 1), true);
        Checks.due("holders", x.holders(0, 1), 2);
    }

    private static void joinMovesAllHolders() {
        FrameSharer x = Checks.keeper(4, 2);
        x.map(0, 0, 5);
        x.map(1, 1, 5);
        x.lend(1, 1, 1, 2);
        x.lend(1, 1, 0, 7);
        Checks.due("join", x.join(0, 0, 1, 2), 3);
        Checks.due("frames after join", x.count(0), 1);
        Checks.due("holders after join", x.holders(0, 0), 4);
        Checks.due("holders of another", x.holders(0, 7), 4);
        Checks.due("cell of another", x.read(1, 31), 5);
        Checks.due("pages stay", x.count(4), 4);
        Checks.dueUnchanged("join again", x, 0, () -> x.join(0, 0, 1, 2));
    }

    private static void joinMovesPictures() {
        FrameSharer x = Checks.keeper(4, 2);
        x.map(0, 0, 5);
        x.map(1, 0, 5);
        x.take();
        x.take();
        x.unmap(0, 0);
        x.map(0, 0, 5);
        Checks.due("changed before join", x.changed(0), 1);
        Checks.due("join with pictures", x.join(0, 0, 1, 0), 3);
        Checks.due("holders: two spaces, two pictures", x.holders(0, 0), 4);
        Checks.due("changed: the pictures came along", x.changed(0), 1);
        x.back(0);
        Checks.due("back to the joined frame", x.holders(1, 0), 3);
        Checks.due("the picture's other frame", x.holders(0, 0), 3);
        Checks.due("frames", x.count(0), 2);
    }

    /** A picture that knows one of both frames sees the same, whichever way they are joined. */
    private static void joinBothWays() {
        FrameSharer x = Checks.keeper(4, 2);
        x.map(0, 0, 5);
        x.take();
        x.map(1, 0, 5);
        Checks.due("join into the picture's frame", x.join(0, 0, 1, 0), 1);
        Checks.due("only the new page differs", x.changed(0), 1);
        FrameSharer y = Checks.keeper(4, 2);
        y.map(0, 0, 5);
        y.take();
        y.map(1, 0, 5);
        Checks.due("join of the picture's frame", y.join(1, 0, 0, 0), 2);
        Checks.due("the picture's page came along", y.changed(0), 1);
        Checks.due("holders", y.holders(1, 0), 3);
    }

    private static void joinOfDifferentCells() {
        for (int cell = 0; cell < 16; cell++) {
            FrameSharer x = Checks.keeper(4, 1);
            x.map(0, 0, 5);
            x.map(0, 1, 5);
            x.write(0, 16 + cell, 6);
            Checks.dueUnchanged("join, cell " + cell + " differs", x, 0, () -> x.join(0, 0, 0, 1));
            x.write(0, cell, 6);
            Checks.due("join, cell " + cell + " is the same", x.join(0, 0, 0, 1), 1);
        }
    }

    private static void joinThatIsNone() {
        FrameSharer x = Checks.keeper(4, 2);
        x.map(0, 0, 0);
        Checks.dueUnchanged("join with itself", x, 0, () -> x.join(0, 0, 0, 0));
        Checks.due("join of an absent first", x.join(1, 0, 0, 0), 0);
        Checks.due("join of an absent second", x.join(0, 0, 1, 0), 0);
        Checks.dueUnchanged("join of two absent", x, 0, () -> x.join(1, 0, 1, 1));
        x.lend(0, 0, 1, 3);
        Checks.due("join in the same frame", x.join(0, 0, 1, 3), 0);
    }

    private static void wrongPagesAndSpaces() {
        FrameSharer x = Checks.keeper(4, 2);
        x.map(0, 0, 0);
        x.map(1, 0, 0);
        wrongTwoPages("lend", x, x::lend);
        wrongTwoPages("join", x, x::join);
    }

    private static void wrongTwoPages(String name, FrameSharer x, TwoPages calls) {
        String before = Checks.seen(x);
        Checks.dueThrow(name + ": first space", Checks.MISSING, () -> calls.call(2, 0, 1, 0));
        Checks.dueThrow(name + ": second space", Checks.MISSING, () -> calls.call(0, 0, 2, 0));
        Checks.dueThrow(name + ": second space, first page", Checks.MISSING, () -> calls.call(0, 8, 2, 0));
        Checks.dueThrow(name + ": first space, second page", Checks.MISSING, () -> calls.call(2, 0, 1, 8));
        Checks.dueThrow(name + ": first page", Checks.OUTSIDE, () -> calls.call(0, 8, 1, 0));
        Checks.dueThrow(name + ": second page", Checks.OUTSIDE, () -> calls.call(0, 0, 1, 8));
        for (int far : Checks.FAR) {
            Checks.dueThrow(name + ": from " + far, Checks.MISSING, () -> calls.call(far, 0, 1, 0));
            Checks.dueThrow(name + ": to " + far, Checks.MISSING, () -> calls.call(0, far, far, 0));
            Checks.dueThrow(name + ": page " + far, Checks.OUTSIDE, () -> calls.call(0, far, 1, 0));
            Checks.dueThrow(name + ": place " + far, Checks.OUTSIDE, () -> calls.call(0, 0, 1, far));
        }
        Checks.due(name + ": nothing changed", Checks.seen(x), before);
    }

    private static void holdersCountsAll() {
        FrameSharer x = Checks.keeper(4, 1);
        Checks.due("holders of an absent page", x.holders(0, 7), 0);
        x.map(0, 7, 1);
        Checks.due("holders alone", x.holders(0, 7), 1);
        x.fork(0);
        x.lend(0, 7, 1, 0);
        Checks.due("holders with a fork and a copy", x.holders(0, 7), 3);
        for (int picture = 0; picture < 8; picture++) {
            x.take();
        }
        Checks.due("holders with eight pictures", x.holders(1, 0), 27);
        x.drop(3);
        Checks.due("holders after drop", x.holders(1, 7), 24);
        x.close(0);
        Checks.due("holders after close", x.holders(1, 7), 23);
    }

    private static void holdersOrderOfExceptions() {
        FrameSharer x = Checks.keeper(4, 1);
        Checks.dueThrow("holders: space before page", Checks.MISSING, () -> x.holders(1, 8));
        Checks.dueThrow("holders: page 8", Checks.OUTSIDE, () -> x.holders(0, 8));
        for (int far : Checks.FAR) {
            Checks.dueThrow("holders: space " + far, Checks.MISSING, () -> x.holders(far, 0));
            Checks.dueThrow("holders: page " + far, Checks.OUTSIDE, () -> x.holders(0, far));
        }
    }
}
