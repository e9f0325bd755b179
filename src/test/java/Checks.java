import java.util.List;
import java.util.function.Function;
import java.util.function.Supplier;

/** What every test here shares: tests of one sentence each, due answers, and refused calls. */
final class Checks {
    static final String MISSING = "throws.NoSuchElementException";
    static final String OUTSIDE = "throws.IndexOutOfBoundsException";
    static final String NO_FRAME = "throws.IllegalStateException";

    /**
     * No space, page, picture, address or kind of count is one of these; some would fall back into a
     * range if a product wrapped around or a number were cut to a byte, a short or its last bits.
     */
    static final int[] FAR = {
        -128, -256, -65536, Integer.MIN_VALUE, Integer.MIN_VALUE + 1, Integer.MAX_VALUE,
        256, 65536, 1 << 24, 1 << 25, 1 << 28, 1 << 29, 1 << 30,
    };
    static final int[] NO_PAGES = withFar(-1, 8);
    static final int[] NO_ADDRESSES = withFar(-1, -15, -16, 128);

    private static String sentence = "";
    private static int tests = 0;
    private static int made = 0;
    private static int wrong = 0;

    interface Call {
        Object answer();
    }

    interface CallWith {
        Object answer(FrameSharer x, int number);
    }

    private Checks() {
    }

    /** One test of one sentence of the document; an exception that it did not await is a wrong answer. */
    static void test(String words, Runnable body) {
        sentence = words;
        tests++;
        int before = made;
        String ended = outcome(() -> {
            body.run();
            return "ended";
        });
        boolean looked = made > before;
        due("the test itself", ended, "ended");
        due("the test looked at something", looked, true);
    }

    static void due(String what, Object got, Object want) {
        made++;
        if (!want.equals(got)) {
            wrong++;
            System.out.println("'" + sentence + "': " + what + " answered " + got + ", due is " + want);
        }
    }

    /** Exactly this exception, not one of a class below it: the machine's own are below. */
    static void dueThrow(String what, String want, Call call) {
        due(what, outcome(call), want);
    }

    /** The call answers this, and a keeper that was asked it can't be told from one that was not. */
    static void refused(
            String what, Supplier<FrameSharer> made, Object want, Function<FrameSharer, Object> call) {
        FrameSharer x = made.get();
        due(what, outcome(() -> call.apply(x)), String.valueOf(want));
        List<String> before = Look.at(made);
        List<String> after = Look.at(Keepers.after(made, y -> outcome(() -> call.apply(y))));
        due(what + " leaves behind", Look.difference(after, before), "what was before");
    }

    static void refusedEach(
            String what, int[] numbers, Supplier<FrameSharer> made, Object want, CallWith call) {
        for (int number : numbers) {
            refused(what + " " + number, made, want, x -> call.answer(x, number));
        }
    }

    static String outcome(Call call) {
        try {
            return String.valueOf(call.answer());
        } catch (RuntimeException e) {
            return "throws." + e.getClass().getSimpleName();
        }
    }

    static int[] withFar(int... near) {
        int[] all = new int[near.length + FAR.length];
        System.arraycopy(near, 0, all, 0, near.length);
        System.arraycopy(FAR, 0, all, near.length, FAR.length);
        return all;
    }

    static void end(String name) {
        System.out.println(name + ": " + tests + " tests, " + made + " checks, " + wrong + " wrong");
        if (wrong != 0 || made == 0) {
            System.exit(1);
        }
    }
}
