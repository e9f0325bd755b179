import java.util.NoSuchElementException;

/** What every test here shares: due answers, due exceptions, and a text of all that can be seen. */
final class Checks {
    static final Class<NoSuchElementException> MISSING = NoSuchElementException.class;
    static final Class<IndexOutOfBoundsException> OUTSIDE = IndexOutOfBoundsException.class;
    static final Class<IllegalStateException> NO_FRAME = IllegalStateException.class;

    /** No space, page, picture or address is one of these. */
    static final int[] FAR = {-1, Integer.MIN_VALUE, Integer.MAX_VALUE, 1 << 28, -128};

    private static int made = 0;
    private static int wrong = 0;

    interface Call {
        Object answer();
    }

    private Checks() {
    }

    static void due(String what, Object got, Object want) {
        made++;
        if (!want.equals(got)) {
            wrong++;
            System.out.println(what + " answered " + got + ", due is " + want);
        }
    }

    /** Exactly this exception, not one of a class below it: the machine's own are below. */
    static void dueThrow(String what, Class<? extends RuntimeException> want, Call call) {
        due(what, outcome(call), "throws." + want.getSimpleName());
    }

    /** The call throws, and all that can be seen is as it was before. */
    static void dueThrowUnchanged(
            String what, FrameSharer x, Class<? extends RuntimeException> want, Call call) {
        String before = seen(x);
        dueThrow(what, want, call);
        due(what + " leaves behind", seen(x), before);
    }

    static void dueUnchanged(String what, FrameSharer x, Object want, Call call) {
        String before = seen(x);
        due(what, call.answer(), want);
        due(what + " leaves behind", seen(x), before);
    }

    static String outcome(Call call) {
        try {
            return String.valueOf(call.answer());
        } catch (RuntimeException e) {
            return "throws." + e.getClass().getSimpleName();
        }
    }

    /** Counts, spaces, holders, one cell a page and what differs from each picture: some 115 calls. */
    static String seen(FrameSharer x) {
        StringBuilder all = new StringBuilder();
        for (int what = 0; what < 5; what++) {
            all.append(x.count(what)).append(' ');
        }
        for (int space = 0; space < 6; space++) {
            if (x.isThere(space)) {
                all.append("| ").append(space).append(": ").append(pagesSeen(x, space));
            }
        }
        for (int picture = 0; picture < 8; picture++) {
            int p = picture;
            all.append("| ").append(outcome(() -> x.changed(p)));
        }
        return all.toString();
    }

    private static String pagesSeen(FrameSharer x, int space) {
        StringBuilder pages = new StringBuilder();
        for (int page = 0; page < 8; page++) {
            int holders = x.holders(space, page);
            pages.append(holders).append(holders > 0 ? "=" + x.read(space, page * 16) : "").append(' ');
        }
        return pages.toString();
    }

    /** A keeper whose first spaces are open already. */
    static FrameSharer keeper(int frames, int spaces) {
        FrameSharer x = new FrameSharer(frames);
        for (int space = 0; space < spaces; space++) {
            x.open();
        }
        return x;
    }

    static void end(String test) {
        System.out.println(test + ": " + made + " checks, " + wrong + " wrong");
        if (wrong != 0 || made == 0) {
            System.exit(1);
        }
    }
}
