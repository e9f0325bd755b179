import java.util.ArrayList;
import java.util.List;
import java.util.function.Function;

/**
 * "An object is used for at most 512 calls": rounds of calls that bring a keeper back to where it was
 * are played until it has answered 512, each as due, the last as the first.
 */
public final class LongUseTest {
    private static final int CALLS = 512;

    private final String name;
    private final FrameSharer x;
    private final List<Function<FrameSharer, Object>> calls = new ArrayList<>();
    private final List<Object> wants = new ArrayList<>();
    private int made = 0;

    private LongUseTest(String name, int frames) {
        this.name = name;
        this.x = new FrameSharer(frames);
    }

    public static void main(String[] args) {
        Checks.test("512 calls: spaces come and go", LongUseTest::spaces);
        Checks.test("512 calls: pages come and go", LongUseTest::pages);
        Checks.test("512 calls: pages are lent and joined", LongUseTest::sharing);
        Checks.test("512 calls: pictures come and go", LongUseTest::pictures);
        Checks.test("512 calls: refused ones", LongUseTest::refusals);
        Checks.test("512 calls: each call is once the last", LongUseTest::eachIsTheLast);
        Checks.end("LongUseTest");
    }

    private static void spaces() {
        new LongUseTest("open and close", 1).round(FrameSharer::open, 0).round(x -> x.close(0), 0).play();
        new LongUseTest("fork and close", 1)
                .first(FrameSharer::open, 0)
                .first(x -> x.map(0, 7, 1), true)
                .round(x -> x.fork(0), 1)
                .round(x -> x.holders(1, 7), 2)
                .round(x -> x.close(1), 1)
                .play();
    }

    private static void pages() {
        new LongUseTest("map and unmap", 1)
                .first(FrameSharer::open, 0)
                .round(x -> x.map(0, 0, 1), true)
                .round(x -> x.unmap(0, 0), true)
                .play();
        new LongUseTest("write to and fro", 1)
                .first(FrameSharer::open, 0)
                .first(x -> x.map(0, 7, 1), true)
                .round(x -> x.write(0, 127, 2), 1)
                .round(x -> x.write(0, 127, 1), 2)
                .play();
        new LongUseTest("write away from a fork", 2)
                .first(FrameSharer::open, 0)
                .first(x -> x.map(0, 0, 1), true)
                .round(x -> x.fork(0), 1)
                .round(x -> x.write(1, 0, 2), 1)
                .round(x -> x.count(0), 2)
                .round(x -> x.close(1), 1)
                .play();
    }

    private static void sharing() {
        new LongUseTest("lend of a page and of absence", 1)
                .first(FrameSharer::open, 0)
                .first(x -> x.map(0, 0, 1), true)
                .round(x -> x.lend(0, 0, 0, 7), true)
                .round(x -> x.lend(0, 1, 0, 7), true)
                .play();
        new LongUseTest("join and part", 2)
                .first(FrameSharer::open, 0)
                .first(x -> x.map(0, 0, 1), true)
                .first(x -> x.map(0, 1, 1), true)
                .round(x -> x.join(0, 0, 0, 1), 1)
                .round(x -> x.write(0, 16, 1), 1)
                .round(x -> x.join(0, 1, 0, 0), 1)
                .round(x -> x.write(0, 0, 1), 1)
                .play();
    }

    private static void pictures() {
        new LongUseTest("take and drop", 1)
                .first(FrameSharer::open, 0)
                .first(x -> x.map(0, 0, 1), true)
                .round(FrameSharer::take, 0)
                .round(x -> x.holders(0, 0), 2)
                .round(x -> x.drop(0), 0)
                .play();
        new LongUseTest("write and back", 2)
                .first(FrameSharer::open, 0)
                .first(x -> x.map(0, 0, 1), true)
                .first(FrameSharer::take, 0)
                .round(x -> x.write(0, 0, 2), 1)
                .round(x -> x.changed(0), 1)
                .round(x -> x.back(0), 1)
                .play();
        new LongUseTest("drop of the last holder", 1)
                .first(FrameSharer::open, 0)
                .round(x -> x.map(0, 0, 1), true)
                .round(FrameSharer::take, 0)
                .round(x -> x.unmap(0, 0), true)
                .round(x -> x.drop(0), 1)
                .play();
    }

    private static void refusals() {
        new LongUseTest("no frame free", 1)
                .first(FrameSharer::open, 0)
                .first(x -> x.map(0, 0, 1), true)
                .first(x -> x.fork(0), 1)
                .round(x -> x.map(0, 1, 1), Checks.NO_FRAME)
                .round(x -> x.write(0, 0, 1), Checks.NO_FRAME)
                .round(x -> x.read(0, 128), Checks.OUTSIDE)
                .round(x -> x.close(2), Checks.MISSING)
                .round(x -> x.map(0, 0, 2), false)
                .round(x -> x.holders(1, 0), 2)
                .play();
    }

    /** Calls before the rounds move them on, so that another call of the round is the 512th. */
    private static void eachIsTheLast() {
        for (int shift = 0; shift < 20; shift++) {
            LongUseTest run = new LongUseTest("shifted by " + shift, 3);
            for (int i = 0; i < shift; i++) {
                run.first(x -> x.isThere(0), false);
            }
            run.first(FrameSharer::open, 0).first(x -> x.map(0, 0, 1), true);
            run.round(FrameSharer::open, 1)
                    .round(x -> x.fork(0), 2)
                    .round(x -> x.map(1, 7, 1), true)
                    .round(x -> x.write(1, 127, 2), 1)
                    .round(x -> x.read(1, 127), 2)
                    .round(x -> x.lend(1, 7, 2, 1), true)
                    .round(x -> x.holders(2, 1), 2)
                    .round(x -> x.write(1, 127, 1), 2)
                    .round(x -> x.write(2, 31, 1), 2)
                    .round(x -> x.join(0, 0, 1, 7), 1)
                    .round(FrameSharer::take, 0)
                    .round(x -> x.unmap(2, 1), true)
                    .round(x -> x.changed(0), 1)
                    .round(x -> x.back(0), 3)
                    .round(x -> x.close(2), 2)
                    .round(x -> x.drop(0), 1)
                    .round(x -> x.close(1), 1)
                    .round(x -> x.count(0), 1)
                    .round(x -> x.isThere(1), false)
                    .round(x -> x.read(0, 15), 1)
                    .play();
        }
    }

    private LongUseTest first(Function<FrameSharer, Object> call, Object want) {
        ask(call, want);
        return this;
    }

    private LongUseTest round(Function<FrameSharer, Object> call, Object want) {
        calls.add(call);
        wants.add(want);
        return this;
    }

    private void play() {
        for (int i = 0; made < CALLS; i++) {
            ask(calls.get(i % calls.size()), wants.get(i % calls.size()));
        }
    }

    private void ask(Function<FrameSharer, Object> call, Object want) {
        made++;
        Checks.due(name + ", call " + made, Checks.outcome(() -> call.apply(x)), String.valueOf(want));
    }
}
