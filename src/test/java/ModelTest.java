import java.util.Random;

/** All promises: runs of 512 calls, each answered by the class and by the model alike. */
public final class ModelTest {
    private static final int RUNS = 1500;
    private static final int CALLS = 512;
    private static final String[] NAMES = {
        "open", "fork", "close", "map", "unmap", "read", "write", "lend", "join",
        "take", "back", "drop", "holders", "changed", "count", "isThere",
    };
    /** How often a call comes, in the order of the names; the rows are few, some or many pictures. */
    private static final int[][] WEIGHTS = {
        {3, 3, 2, 12, 3, 6, 14, 6, 8, 2, 2, 2, 6, 4, 6, 1},
        {3, 2, 1, 16, 2, 8, 24, 8, 12, 1, 1, 1, 6, 3, 6, 1},
        {4, 4, 4, 10, 3, 4, 12, 4, 6, 8, 6, 3, 6, 8, 6, 1},
    };

    private static final int[] WRONG = Checks.withFar(-1, 6, 8, 128);

    private final Random random;
    private final int[] weights;
    private final FrameSharer real;
    private final Model model;
    private final StringBuilder story = new StringBuilder();

    private ModelTest(int run) {
        random = new Random(run);
        weights = WEIGHTS[run % WEIGHTS.length];
        int frames = random.nextInt(4) == 0 ? random.nextInt(80) - 10 : 1 + random.nextInt(30);
        real = new FrameSharer(frames);
        model = new Model(frames);
        story.append("new ").append(frames);
    }

    public static void main(String[] args) {
        Checks.test("An object is used for at most 512 calls", ModelTest::playAll);
        Checks.end("ModelTest");
    }

    private static void playAll() {
        for (int run = 0; run < RUNS; run++) {
            new ModelTest(run).play(run);
        }
    }

    private void play(int run) {
        for (int i = 0; i < CALLS; i++) {
            int kind = kind();
            int[] a = {argument(kind, 0), argument(kind, 1), argument(kind, 2), argument(kind, 3)};
            String got = Checks.outcome(() -> ofReal(kind, a));
            String want = Checks.outcome(() -> ofModel(kind, a));
            String call = NAMES[kind] + " " + a[0] + " " + a[1] + " " + a[2] + " " + a[3];
            story.append("; ").append(call).append(" = ").append(want);
            Checks.due(got.equals(want) ? call : "run " + run + ": " + story, got, want);
            if (!got.equals(want)) {
                return;
            }
        }
    }

    private int kind() {
        int all = 0;
        for (int weight : weights) {
            all += weight;
        }
        int left = random.nextInt(all);
        int kind = 0;
        while (left >= weights[kind]) {
            left -= weights[kind];
            kind++;
        }
        return kind;
    }

    private int argument(int kind, int place) {
        if (random.nextInt(60) == 0) {
            return WRONG[random.nextInt(WRONG.length)];
        }
        String name = NAMES[kind];
        if (name.equals("back") || name.equals("drop") || name.equals("changed")) {
            return random.nextInt(random.nextBoolean() ? 3 : 9);
        }
        boolean cells = name.equals("read") || name.equals("write");
        if (place == 0 || place == 2 && (name.equals("lend") || name.equals("join"))) {
            return random.nextInt(random.nextInt(30) == 0 ? 8 : 6);
        }
        if (cells && place == 1) {
            // Few cells are used, so that pages with the same cells are met again.
            return random.nextInt(40) == 0 ? 128 : random.nextInt(8) * 16 + random.nextInt(2) * 15;
        }
        if (place == 2) {
            return random.nextInt(2);
        }
        return random.nextInt(random.nextInt(30) == 0 ? 10 : 8);
    }

    private Object ofReal(int kind, int[] a) {
        switch (NAMES[kind]) {
            case "open": return real.open();
            case "fork": return real.fork(a[0]);
            case "close": return real.close(a[0]);
            case "map": return real.map(a[0], a[1], a[2]);
            case "unmap": return real.unmap(a[0], a[1]);
            case "read": return real.read(a[0], a[1]);
            case "write": return real.write(a[0], a[1], a[2]);
            case "lend": return real.lend(a[0], a[1], a[2], a[3]);
            case "join": return real.join(a[0], a[1], a[2], a[3]);
            case "take": return real.take();
            case "back": return real.back(a[0]);
            case "drop": return real.drop(a[0]);
            case "holders": return real.holders(a[0], a[1]);
            case "changed": return real.changed(a[0]);
            case "count": return real.count(a[0]);
            default: return real.isThere(a[0]);
        }
    }

    private Object ofModel(int kind, int[] a) {
        switch (NAMES[kind]) {
            case "open": return model.open();
            case "fork": return model.fork(a[0]);
            case "close": return model.close(a[0]);
            case "map": return model.map(a[0], a[1], a[2]);
            case "unmap": return model.unmap(a[0], a[1]);
            case "read": return model.read(a[0], a[1]);
            case "write": return model.write(a[0], a[1], a[2]);
            case "lend": return model.lend(a[0], a[1], a[2], a[3]);
            case "join": return model.join(a[0], a[1], a[2], a[3]);
            case "take": return model.take();
            case "back": return model.back(a[0]);
            case "drop": return model.drop(a[0]);
            case "holders": return model.holders(a[0], a[1]);
            case "changed": return model.changed(a[0]);
            case "count": return model.count(a[0]);
            default: return model.isThere(a[0]);
        }
    }
}
