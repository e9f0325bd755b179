import java.util.List;
import java.util.function.Function;
import java.util.function.Supplier;

/**
 * "A call that throws, or answers false or -1, changes nothing": every call, with all mixtures of
 * numbers inside, at and outside the edges, in keepers with and without a free frame.
 */
public final class RefusalsTest {
    private static final int[] SPACES = {-1, 0, 2, 3, 6};
    private static final int[] PAGES = {-1, 0, 3, 6, 7, 8};
    private static final int[] FEW_PAGES = {-1, 0, 6, 8};
    private static final int[] ADDRESSES = {-1, 0, 15, 16, 111, 112, 127, 128};
    private static final int[] PICTURES = {-1, 0, 1, 2, 7, 8};
    private static final int[] KINDS = {-1, 0, 1, 2, 3, 4, 5};

    private final Supplier<FrameSharer> made;
    private final List<String> before;

    private RefusalsTest(Supplier<FrameSharer> made) {
        this.made = made;
        this.before = Look.at(made);
    }

    public static void main(String[] args) {
        test("in a busy keeper", Keepers.BUSY);
        test("with no frame left", Keepers.NO_FRAME_LEFT);
        test("in a new keeper", () -> new FrameSharer(1));
        Checks.test("-1, changes nothing: in a crowded keeper", () -> {
            RefusalsTest all = new RefusalsTest(Keepers.CROWDED_FULL);
            all.numbersGiven();
            all.oneNumber();
        });
        Checks.end("RefusalsTest");
    }

    private static void test(String where, Supplier<FrameSharer> made) {
        Checks.test("throws, or answers false or -1, changes nothing: " + where, () -> {
            RefusalsTest all = new RefusalsTest(made);
            all.numbersGiven();
            all.oneNumber();
            all.pages();
            all.addresses();
            all.twoPages();
        });
    }

    private void numbersGiven() {
        ask("open", FrameSharer::open);
        ask("take", FrameSharer::take);
    }

    private void oneNumber() {
        for (int space : SPACES) {
            ask("fork " + space, x -> x.fork(space));
            ask("close " + space, x -> x.close(space));
            ask("isThere " + space, x -> x.isThere(space));
        }
        for (int picture : PICTURES) {
            ask("back " + picture, x -> x.back(picture));
            ask("drop " + picture, x -> x.drop(picture));
            ask("changed " + picture, x -> x.changed(picture));
        }
        for (int what : KINDS) {
            ask("count " + what, x -> x.count(what));
        }
    }

    private void pages() {
        for (int space : SPACES) {
            for (int page : PAGES) {
                String where = " " + space + " " + page;
                ask("map" + where, x -> x.map(space, page, 9));
                ask("unmap" + where, x -> x.unmap(space, page));
                ask("holders" + where, x -> x.holders(space, page));
            }
        }
    }

    private void addresses() {
        for (int space : SPACES) {
            for (int address : ADDRESSES) {
                String where = " " + space + " " + address;
                ask("read" + where, x -> x.read(space, address));
                ask("write" + where, x -> x.write(space, address, 9));
            }
        }
    }

    private void twoPages() {
        for (int from : SPACES) {
            for (int page : FEW_PAGES) {
                for (int to : SPACES) {
                    for (int place : FEW_PAGES) {
                        String where = " " + from + " " + page + " " + to + " " + place;
                        ask("lend" + where, x -> x.lend(from, page, to, place));
                        ask("join" + where, x -> x.join(from, page, to, place));
                    }
                }
            }
        }
    }

    /** No cell of these keepers is -1, so that -1 is always a refusal. */
    private void ask(String what, Function<FrameSharer, Object> call) {
        FrameSharer x = made.get();
        String answer = Checks.outcome(() -> call.apply(x));
        if (answer.startsWith("throws.") || answer.equals("false") || answer.equals("-1")) {
            List<String> after = Look.at(Keepers.after(made, y -> Checks.outcome(() -> call.apply(y))));
            Checks.due(what + " = " + answer + " leaves behind", Look.difference(after, before), "what was before");
        }
    }
}
