/** Promise 1: a new object. */
public final class Promise01NewObjectTest {
    public static void main(String[] args) {
        Checks.test("No spaces", Promise01NewObjectTest::noSpaces);
        Checks.test("no pictures", Promise01NewObjectTest::noPictures);
        Checks.test("The number of frames is this", Promise01NewObjectTest::theNumberItself);
        Checks.test("or the nearest of 1 .. 60: too small", Promise01NewObjectTest::tooFewFrames);
        Checks.test("or the nearest of 1 .. 60: too large", Promise01NewObjectTest::tooManyFrames);
        Checks.end("Promise01NewObjectTest");
    }

    private static void noSpaces() {
        FrameSharer x = new FrameSharer(7);
        Checks.due("frames in use", x.count(0), 0);
        Checks.due("spaces", x.count(2), 0);
        Checks.due("pages", x.count(4), 0);
        for (int space = -1; space <= 6; space++) {
            Checks.due("isThere " + space, x.isThere(space), false);
        }
        Checks.due("the first space", x.open(), 0);
    }

    private static void noPictures() {
        FrameSharer x = new FrameSharer(7);
        Checks.due("pictures", x.count(3), 0);
        for (int picture = -1; picture <= 8; picture++) {
            int p = picture;
            Checks.dueThrow("back " + p, Checks.MISSING, () -> x.back(p));
        }
        Checks.due("the first picture", x.take(), 0);
    }

    private static void theNumberItself() {
        for (int frames = 1; frames <= 60; frames++) {
            dueFrames(frames, frames);
        }
    }

    private static void tooFewFrames() {
        for (int frames : new int[] {0, -1, -59, -60, -255, Integer.MIN_VALUE, Integer.MIN_VALUE + 1}) {
            dueFrames(frames, 1);
        }
    }

    private static void tooManyFrames() {
        for (int frames : new int[] {61, 62, 256, 65537, 1 << 28, 1 << 30, Integer.MAX_VALUE}) {
            dueFrames(frames, 60);
        }
    }

    private static void dueFrames(int asked, int want) {
        Checks.due("frames of " + asked, new FrameSharer(asked).count(1), want);
        FrameSharer x = Keepers.opened(asked, 6);
        Checks.due("frames to be had of " + asked, framesUntilFull(x), want);
        Checks.due("frames in use of " + asked, x.count(0), want);
    }

    /** The spaces alone have but 48 pages; writes away from a picture want the frames beyond. */
    private static int framesUntilFull(FrameSharer x) {
        int frames = 0;
        for (int i = 0; i < 48; i++) {
            int page = i;
            frames += Checks.outcome(() -> x.map(page / 8, page % 8, 1)).equals("true") ? 1 : 0;
        }
        x.take();
        for (int i = 0; i < 48; i++) {
            int page = i;
            frames += Checks.outcome(() -> x.write(page / 8, page % 8 * 16, 2)).equals("1") ? 1 : 0;
        }
        return frames;
    }
}
