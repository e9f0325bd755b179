import java.util.function.Supplier;

/** What lend and join refuse alike: "Throws as lend." */
final class TwoPages {
    interface Call {
        Object answer(FrameSharer x, int space, int page, int other, int place);
    }

    private TwoPages() {
    }

    static void missingSpaces(String name, Call call) {
        each(name, "first space", Keepers.MISSING_SPACES, Checks.MISSING, (x, n) -> call.answer(x, n, 0, 1, 0));
        each(name, "second space", Keepers.MISSING_SPACES, Checks.MISSING, (x, n) -> call.answer(x, 0, 0, n, 0));
        each(name, "both spaces", Keepers.MISSING_SPACES, Checks.MISSING, (x, n) -> call.answer(x, n, 0, n, 0));
    }

    static void noPages(String name, Call call) {
        each(name, "first page", Checks.NO_PAGES, Checks.OUTSIDE, (x, n) -> call.answer(x, 0, n, 1, 0));
        each(name, "second page", Checks.NO_PAGES, Checks.OUTSIDE, (x, n) -> call.answer(x, 0, 0, 1, n));
        each(name, "both pages", Checks.NO_PAGES, Checks.OUTSIDE, (x, n) -> call.answer(x, 0, n, 1, n));
        each(name, "first page, one space", Checks.NO_PAGES, Checks.OUTSIDE, (x, n) -> call.answer(x, 0, n, 0, n));
    }

    /** Each space that isn't there beside each page that is none, also the other one's page. */
    static void spacesBeforePages(String name, Call call) {
        each(name, "space 2, page", Checks.NO_PAGES, Checks.MISSING, (x, n) -> call.answer(x, 2, n, 1, 0));
        each(name, "space 2, place", Checks.NO_PAGES, Checks.MISSING, (x, n) -> call.answer(x, 2, 0, 1, n));
        each(name, "other 2, page", Checks.NO_PAGES, Checks.MISSING, (x, n) -> call.answer(x, 0, n, 2, 0));
        each(name, "other 2, place", Checks.NO_PAGES, Checks.MISSING, (x, n) -> call.answer(x, 0, 0, 2, n));
        each(name, "page 8, space", Keepers.MISSING_SPACES, Checks.MISSING, (x, n) -> call.answer(x, n, 8, 1, 8));
        each(name, "page 8, other", Keepers.MISSING_SPACES, Checks.MISSING, (x, n) -> call.answer(x, 0, 8, n, 8));
    }

    private static void each(String name, String what, int[] numbers, String want, Checks.CallWith call) {
        Supplier<FrameSharer> made = Keepers.BUSY;
        Checks.refusedEach(name + ", " + what, numbers, made, want, call);
    }
}
