import java.util.function.Consumer;
import java.util.function.Supplier;

/** Keepers that many tests begin with, made anew for each question. */
final class Keepers {
    /** As many frames as a busy or a crowded keeper has in use. */
    static final int BUSY_FRAMES = 7;

    static final Supplier<FrameSharer> BUSY = () -> busy(BUSY_FRAMES + 5);
    static final Supplier<FrameSharer> ONE_FRAME_LEFT = () -> busy(BUSY_FRAMES + 1);
    static final Supplier<FrameSharer> NO_FRAME_LEFT = () -> busy(BUSY_FRAMES);
    static final Supplier<FrameSharer> CROWDED = () -> crowded(BUSY_FRAMES + 5);
    static final Supplier<FrameSharer> CROWDED_FULL = () -> crowded(BUSY_FRAMES);

    /** In a busy keeper: spaces that are closed or were never opened, then numbers of no space. */
    static final int[] MISSING_SPACES = Checks.withFar(2, 4, 5, 6, -1);
    static final int[] NO_SPACES = Checks.withFar(6, -1);
    /** In a busy keeper: pictures that are dropped or were never taken, then numbers of no picture. */
    static final int[] MISSING_PICTURES = Checks.withFar(1, 3, 7, 8, -1);
    static final int[] NO_PICTURES = Checks.withFar(8, -1);

    private Keepers() {
    }

    /** A keeper whose first spaces are open already. */
    static FrameSharer opened(int frames, int spaces) {
        FrameSharer x = new FrameSharer(frames);
        for (int space = 0; space < spaces; space++) {
            x.open();
        }
        return x;
    }

    /** A keeper with space 0, all of whose pages are there: page p has cells first + p. */
    static FrameSharer wholeSpace(int frames, int first) {
        FrameSharer x = opened(frames, 1);
        for (int page = 0; page < 8; page++) {
            x.map(0, page, first + page);
        }
        return x;
    }

    /**
     * Spaces 0, 1 and 3, pictures 0 and 2, seven frames in use. Space 0 has pages 0, 3 and 7 and space 1
     * is forked from it, but its page 7 was written; space 3 has pages 0 and 5, alone in their frames
     * (page 5 with a picture), and 6, in the frame of page 0 of space 0. Pages 0 and 3 of space 0 and
     * page 5 of space 3 have the same cells in three frames. A page of the closed space 2 is left in
     * picture 0 alone.
     */
    static FrameSharer busy(int frames) {
        FrameSharer x = opened(frames, 1);
        x.map(0, 0, 1);
        x.map(0, 3, 1);
        x.map(0, 7, 2);
        x.write(0, 127, 3);
        x.fork(0);
        x.open();
        x.map(2, 2, 4);
        x.take();
        x.take();
        x.write(1, 112, 5);
        x.open();
        x.close(2);
        x.map(3, 5, 1);
        x.lend(0, 0, 3, 6);
        x.take();
        x.map(3, 0, 6);
        x.drop(1);
        return x;
    }

    /** A busy keeper in which all spaces and all pictures are there; space 2 has no page. */
    static FrameSharer crowded(int frames) {
        FrameSharer x = busy(frames);
        x.open();
        x.fork(3);
        x.fork(0);
        for (int more = 0; more < 6; more++) {
            x.take();
        }
        return x;
    }

    static Supplier<FrameSharer> after(Supplier<FrameSharer> made, Consumer<FrameSharer> calls) {
        return () -> {
            FrameSharer x = made.get();
            calls.accept(x);
            return x;
        };
    }
}
