/** Promise 11: take. */
public final class Promise11TakeTest {
    public static void main(String[] args) {
        Checks.test("The least picture that there is not is taken: its number", Promise11TakeTest::theLeast);
        Checks.test("is taken: where one was dropped", Promise11TakeTest::takenAgain);
        Checks.test("a copy comes into the same frame: none is wanted", Promise11TakeTest::noFrameWanted);
        Checks.test("is taken: of no space", Promise11TakeTest::ofNoSpace);
        Checks.test("-1 when all are there", Promise11TakeTest::allAreThere);
        Checks.end("Promise11TakeTest");
    }

    private static void theLeast() {
        FrameSharer x = Keepers.opened(3, 1);
        for (int picture = 0; picture < 8; picture++) {
            Checks.due("take", x.take(), picture);
            Checks.due("pictures", x.count(3), picture + 1);
        }
        x.drop(6);
        x.drop(2);
        x.drop(0);
        Checks.due("take in the first gap", x.take(), 0);
        Checks.due("take in the next gap", x.take(), 2);
        Checks.due("take in the last gap", x.take(), 6);
    }

    private static void takenAgain() {
        FrameSharer x = Keepers.opened(5, 2);
        x.map(0, 0, 1);
        x.map(1, 0, 1);
        x.take();
        x.close(1);
        x.unmap(0, 0);
        x.drop(0);
        Checks.due("take again", x.take(), 0);
        Checks.due("no page in the new picture", x.count(0), 0);
        Checks.due("nothing changed since", x.changed(0), 0);
        Checks.due("back to the one space", x.back(0), 1);
        Checks.due("the second space isn't there", x.isThere(1), false);
    }

    private static void noFrameWanted() {
        FrameSharer x = Keepers.opened(1, 1);
        x.map(0, 0, 1);
        Checks.due("take with all frames in use", x.take(), 0);
        Checks.due("frames", x.count(0), 1);
        Checks.due("pages in pictures are not counted", x.count(4), 1);
        Checks.due("holders", x.holders(0, 0), 2);
    }

    private static void ofNoSpace() {
        FrameSharer x = new FrameSharer(1);
        Checks.due("take of a new one", x.take(), 0);
        Checks.due("pictures", x.count(3), 1);
        Checks.due("frames", x.count(0), 0);
        Checks.due("back", x.back(0), 0);
    }

    private static void allAreThere() {
        FrameSharer x = Keepers.opened(3, 1);
        for (int picture = 0; picture < 7; picture++) {
            x.take();
        }
        Checks.due("take with seven there", x.take(), 7);
        Checks.due("take with eight there", x.take(), -1);
        Checks.due("pictures", x.count(3), 8);
        x.drop(7);
        Checks.due("take with seven there again", x.take(), 7);
        Checks.refused("take with eight there", Keepers.CROWDED, -1, FrameSharer::take);
        Checks.refused("take in a full one", Keepers.CROWDED_FULL, -1, FrameSharer::take);
        Checks.refused(
                "take when the last picture is an old one", Keepers.after(Keepers.CROWDED, y -> y.close(0)), -1,
                FrameSharer::take);
    }
}
