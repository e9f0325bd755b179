import java.util.ArrayList;
import java.util.List;
import java.util.function.Supplier;

/** Promise 12: back. */
public final class Promise12BackTest {
    public static void main(String[] args) {
        Checks.test("All spaces become as in a picture", Promise12BackTest::spacesAndCells);
        Checks.test("All spaces become as in a picture: from any state", Promise12BackTest::asTheyWere);
        Checks.test("which stays", Promise12BackTest::pictureStays);
        Checks.test("how many spaces there are", Promise12BackTest::howMany);
        Checks.test("how many spaces there are: none", Promise12BackTest::toNoSpaces);
        Checks.test("as in a picture: frames that nobody holds are free", Promise12BackTest::freesFrames);
        Checks.test("back from one into the same frame: none is wanted", Promise12BackTest::noFrameWanted);
        Checks.test("the first and the last page of the first and last space", Promise12BackTest::corners);
        Checks.test("NoSuchElementException when it isn't there", Promise12BackTest::missingPicture);
        Checks.end("Promise12BackTest");
    }

    private static void spacesAndCells() {
        FrameSharer x = Keepers.opened(10, 3);
        x.map(0, 0, 1);
        x.map(2, 7, 3);
        x.write(2, 127, 4);
        x.close(1);
        x.take();
        x.close(0);
        x.write(2, 127, 5);
        x.map(2, 0, 9);
        x.open();
        x.open();
        x.open();
        x.map(1, 1, 1);
        Checks.due("back", x.back(0), 2);
        Checks.due("space 0", x.isThere(0), true);
        Checks.due("space 1", x.isThere(1), false);
        Checks.due("space 2", x.isThere(2), true);
        Checks.due("space 3", x.isThere(3), false);
        Checks.due("a page of a closed space", x.read(0, 0), 1);
        Checks.due("a written cell", x.read(2, 127), 4);
        Checks.due("its neighbour", x.read(2, 126), 3);
        Checks.due("a later page", x.holders(2, 0), 0);
        Checks.due("pages", x.count(4), 2);
        Checks.due("frames", x.count(0), 2);
        Checks.due("changed", x.changed(0), 0);
        Checks.due("the space that came and went", x.open(), 1);
        Checks.due("it is empty", x.holders(1, 1), 0);
    }

    /** Whatever was done after a picture was taken, back brings all that can be seen of the spaces. */
    private static void asTheyWere() {
        Supplier<FrameSharer> taken = Keepers.after(Keepers.BUSY, FrameSharer::take);
        List<String> before = new ArrayList<>();
        Look.spaces(before, "spaces", taken);
        dueAgain("closed", before, Keepers.after(taken, Promise12BackTest::closeAll));
        dueAgain("written", before, Keepers.after(taken, Promise12BackTest::writeSome));
        dueAgain("back elsewhere", before, Keepers.after(taken, x -> x.back(0)));
        dueAgain("unchanged", before, taken);
    }

    private static void closeAll(FrameSharer x) {
        for (int space = 0; space < 6; space++) {
            if (x.isThere(space)) {
                x.close(space);
            }
        }
    }

    private static void writeSome(FrameSharer x) {
        x.write(0, 0, 9);
        x.write(3, 15, 9);
        x.unmap(0, 3);
        x.map(0, 3, 9);
        x.lend(0, 7, 1, 0);
        x.fork(0);
    }

    private static void dueAgain(String what, List<String> before, Supplier<FrameSharer> later) {
        List<String> again = new ArrayList<>();
        Look.spaces(again, "spaces", Keepers.after(later, x -> x.back(1)));
        Checks.due("back when " + what, Look.difference(again, before), "what was before");
    }

    private static void pictureStays() {
        FrameSharer x = Keepers.opened(4, 1);
        x.map(0, 0, 1);
        x.take();
        for (int time = 0; time < 3; time++) {
            x.write(0, 0, 50 + time);
            Checks.due("back again", x.back(0), 1);
            Checks.due("its cell", x.read(0, 0), 1);
            Checks.due("its holders", x.holders(0, 0), 2);
            Checks.due("pictures", x.count(3), 1);
        }
    }

    private static void howMany() {
        for (int spaces = 0; spaces <= 6; spaces++) {
            FrameSharer x = Keepers.opened(1, spaces);
            x.take();
            x.open();
            Checks.due("back to spaces " + spaces, x.back(0), spaces);
            Checks.due("spaces", x.count(2), spaces);
        }
    }

    private static void toNoSpaces() {
        FrameSharer x = new FrameSharer(3);
        x.take();
        x.open();
        x.map(0, 0, 1);
        Checks.due("back to none", x.back(0), 0);
        Checks.due("spaces", x.count(2), 0);
        Checks.due("pages", x.count(4), 0);
        Checks.due("frames", x.count(0), 0);
        Checks.due("open", x.open(), 0);
        Checks.due("its page", x.holders(0, 0), 0);
    }

    private static void freesFrames() {
        FrameSharer x = Keepers.opened(4, 1);
        x.take();
        x.map(0, 0, 1);
        x.map(0, 1, 1);
        x.take();
        x.map(0, 2, 1);
        Checks.due("frames before", x.count(0), 3);
        x.back(0);
        Checks.due("frames of the later picture stay", x.count(0), 2);
        Checks.due("forward to the later picture", x.back(1), 1);
        Checks.due("its cell", x.read(0, 16), 1);
    }

    private static void noFrameWanted() {
        FrameSharer x = Keepers.opened(2, 1);
        x.map(0, 0, 1);
        x.take();
        x.write(0, 0, 2);
        Checks.due("frames before", x.count(0), 2);
        Checks.due("back with all frames in use", x.back(0), 1);
        Checks.due("frames", x.count(0), 1);
        FrameSharer y = Keepers.NO_FRAME_LEFT.get();
        Checks.due("back in a full one", y.back(0), 3);
        Checks.due("its frames: one was in no picture", y.count(0), Keepers.BUSY_FRAMES - 1);
    }

    private static void corners() {
        for (int corner = 0; corner < 2; corner++) {
            int space = corner * 5;
            int page = corner * 7;
            FrameSharer x = Keepers.opened(4, 6);
            x.map(space, page, 3);
            x.take();
            x.close(space);
            Checks.due("the picture's frame", x.count(0), 1);
            Checks.due("back", x.back(0), 6);
            Checks.due("isThere", x.isThere(space), true);
            Checks.due("read", x.read(space, page * 16 + 15), 3);
            Checks.due("pages", x.count(4), 1);
        }
    }

    private static void missingPicture() {
        Alike.missingPicture("back", FrameSharer::back);
        FrameSharer x = Keepers.CROWDED.get();
        Checks.due("back to the first", x.back(0), 3);
        Checks.due("back to the last", x.back(7), 6);
        x.drop(7);
        Checks.dueThrow("back to one dropped", Checks.MISSING, () -> x.back(7));
    }
}
