import java.util.function.Supplier;

/** What several calls refuse alike: spaces, pages, addresses and pictures that there are not. */
final class Alike {
    /** A page or an address of a space. */
    interface InSpace {
        Object answer(FrameSharer x, int space, int number);
    }

    interface OfTwoPages {
        Object answer(FrameSharer x, int space, int page, int other, int place);
    }

    private Alike() {
    }

    static void missingSpace(String name, Supplier<FrameSharer> made, InSpace call) {
        Checks.refusedEach(
                name + " of 0 in space", Keepers.MISSING_SPACES, made, Checks.MISSING,
                (x, space) -> call.answer(x, space, 0));
        Checks.refusedEach(
                name + " of 7 in space", new int[] {-1, 2, 4, 5, 6}, made, Checks.MISSING,
                (x, space) -> call.answer(x, space, 7));
    }

    static void noPage(String name, Supplier<FrameSharer> made, InSpace call) {
        for (int space : new int[] {0, 3}) {
            Checks.refusedEach(
                    name + " in space " + space + " of page", Checks.NO_PAGES, made, Checks.OUTSIDE,
                    (x, page) -> call.answer(x, space, page));
        }
    }

    static void spaceBeforePage(String name, Supplier<FrameSharer> made, InSpace call) {
        Checks.refusedEach(
                name + " in space 2 of page", Checks.NO_PAGES, made, Checks.MISSING,
                (x, page) -> call.answer(x, 2, page));
        Checks.refusedEach(
                name + " of page 8 in space", Keepers.MISSING_SPACES, made, Checks.MISSING,
                (x, space) -> call.answer(x, space, 8));
    }

    static void noAddress(String name, Supplier<FrameSharer> made, InSpace call) {
        Checks.refusedEach(
                name + " at", Checks.NO_ADDRESSES, made, Checks.OUTSIDE, (x, at) -> call.answer(x, 0, at));
    }

    /** In a busy keeper, space 0 has pages 0, 3 and 7: the first and last addresses of absent ones. */
    static void absentPage(String name, Supplier<FrameSharer> made, InSpace call) {
        Checks.refusedEach(
                name + " at", new int[] {16, 47, 64, 111}, made, Checks.MISSING,
                (x, at) -> call.answer(x, 0, at));
        Checks.refused(
                name + " in an empty space", Keepers.after(made, FrameSharer::open), Checks.MISSING,
                x -> call.answer(x, 2, 127));
    }

    static void addressFirst(String name, Supplier<FrameSharer> made, InSpace call) {
        Checks.refusedEach(
                name + " in space 2 at", Checks.NO_ADDRESSES, made, Checks.OUTSIDE,
                (x, at) -> call.answer(x, 2, at));
        Checks.refusedEach(
                name + " at 128 in space", Keepers.MISSING_SPACES, made, Checks.OUTSIDE,
                (x, space) -> call.answer(x, space, 128));
        Checks.refusedEach(
                name + " in an empty space at", Checks.NO_ADDRESSES, Keepers.after(made, FrameSharer::open),
                Checks.OUTSIDE, (x, at) -> call.answer(x, 2, at));
    }

    static void missingPicture(String name, Checks.CallWith call) {
        Checks.refusedEach(name + " of", Keepers.MISSING_PICTURES, Keepers.BUSY, Checks.MISSING, call);
        Checks.refusedEach(
                name + " in a new keeper of", new int[] {-1, 0, 7, 8}, () -> new FrameSharer(2),
                Checks.MISSING, call);
        Checks.refusedEach(
                name + " when all are there of", Keepers.NO_PICTURES, Keepers.CROWDED, Checks.MISSING, call);
    }

    static void missingSpaces(String name, OfTwoPages call) {
        spaces(name + ", first space", (x, n) -> call.answer(x, n, 0, 1, 0));
        spaces(name + ", second space", (x, n) -> call.answer(x, 0, 0, n, 0));
        spaces(name + ", both spaces", (x, n) -> call.answer(x, n, 0, n, 0));
    }

    static void noPages(String name, OfTwoPages call) {
        pages(name + ", first page", Checks.OUTSIDE, (x, n) -> call.answer(x, 0, n, 1, 0));
        pages(name + ", second page", Checks.OUTSIDE, (x, n) -> call.answer(x, 0, 0, 1, n));
        pages(name + ", both pages", Checks.OUTSIDE, (x, n) -> call.answer(x, 0, n, 1, n));
        pages(name + ", one page twice", Checks.OUTSIDE, (x, n) -> call.answer(x, 0, n, 0, n));
    }

    /** Each space that isn't there beside each page that is none, also the other one's page. */
    static void spacesBeforePages(String name, OfTwoPages call) {
        pages(name + ", space 2, page", Checks.MISSING, (x, n) -> call.answer(x, 2, n, 1, 0));
        pages(name + ", space 2, place", Checks.MISSING, (x, n) -> call.answer(x, 2, 0, 1, n));
        pages(name + ", other 2, page", Checks.MISSING, (x, n) -> call.answer(x, 0, n, 2, 0));
        pages(name + ", other 2, place", Checks.MISSING, (x, n) -> call.answer(x, 0, 0, 2, n));
        spaces(name + ", pages 8, space", (x, n) -> call.answer(x, n, 8, 1, 8));
        spaces(name + ", pages 8, other", (x, n) -> call.answer(x, 0, 8, n, 8));
    }

    private static void spaces(String what, Checks.CallWith call) {
        Checks.refusedEach(what, Keepers.MISSING_SPACES, Keepers.BUSY, Checks.MISSING, call);
    }

    private static void pages(String what, String want, Checks.CallWith call) {
        Checks.refusedEach(what, Checks.NO_PAGES, Keepers.BUSY, want, call);
    }
}
