import java.util.function.Consumer;
import java.util.function.Supplier;

/** The document's terms, which no promise tells again: what there is, frames, and what is refused. */
public final class TermsTest {
    public static void main(String[] args) {
        Checks.test("A SPACE (0 .. 5", TermsTest::whichSpaces);
        Checks.test("A SPACE, none there at first", TermsTest::noSpaceAtFirst);
        Checks.test("PAGES 0 .. 7, each ABSENT or with 16 CELLS", TermsTest::pagesAndCells);
        Checks.test("CELLS, ints", TermsTest::cellsAreInts);
        Checks.test("ADDRESS a is cell a % 16 of page a / 16 (a 0 .. 127)", TermsTest::addresses);
        Checks.test("A PICTURE (0 .. 7, none at first)", TermsTest::whichPictures);
        Checks.test("the pages of all spaces as they were, and which spaces", TermsTest::picturesHoldAll);
        Checks.test("As many frames as holders in different ones are in USE", TermsTest::framesInUse);
        Checks.test("A new page comes into a frame of its own", TermsTest::newPageAlone);
        Checks.test("a copy of a page comes into the same frame", TermsTest::copiesShare);
        Checks.test("To WRITE a cell of a page whose frame has other holders", TermsTest::writeParts);
        Checks.test("a frame of one's own is wanted while all are in use", TermsTest::allInUse);
        Checks.test("(holders that go by the same call still there)", TermsTest::goingHoldersCount);
        Checks.test("A frame without holders is free", TermsTest::freeFrames);
        Checks.test("A frame without holders: one in a picture is a holder", TermsTest::pictureHolds);
        Checks.end("TermsTest");
    }

    private static void whichSpaces() {
        FrameSharer x = new FrameSharer(2);
        for (int space = 0; space < 6; space++) {
            Checks.due("open", x.open(), space);
        }
        Checks.due("no seventh", x.open(), -1);
        for (int space = -1; space <= 6; space++) {
            int s = space;
            boolean is = s >= 0 && s <= 5;
            Checks.due("isThere " + s, x.isThere(s), is);
            Checks.due("close " + s, Checks.outcome(() -> x.close(s)), is ? "0" : Checks.MISSING);
        }
    }

    private static void noSpaceAtFirst() {
        Supplier<FrameSharer> made = () -> new FrameSharer(2);
        int[] numbers = {-1, 0, 1, 5, 6};
        Checks.refusedEach("fork", numbers, made, Checks.MISSING, FrameSharer::fork);
        Checks.refusedEach("close", numbers, made, Checks.MISSING, FrameSharer::close);
        Checks.refusedEach("map in", numbers, made, Checks.MISSING, (x, space) -> x.map(space, 0, 1));
        Checks.refusedEach("unmap in", numbers, made, Checks.MISSING, (x, space) -> x.unmap(space, 0));
        Checks.refusedEach("read in", numbers, made, Checks.MISSING, (x, space) -> x.read(space, 0));
        Checks.refusedEach("write in", numbers, made, Checks.MISSING, (x, space) -> x.write(space, 0, 1));
        Checks.refusedEach("lend in", numbers, made, Checks.MISSING, (x, space) -> x.lend(space, 0, space, 1));
        Checks.refusedEach("join in", numbers, made, Checks.MISSING, (x, space) -> x.join(space, 0, space, 1));
        Checks.refusedEach("holders in", numbers, made, Checks.MISSING, (x, space) -> x.holders(space, 0));
    }

    private static void pagesAndCells() {
        for (int page = -1; page <= 8; page++) {
            int p = page;
            FrameSharer x = Keepers.opened(2, 6);
            boolean is = p >= 0 && p <= 7;
            Checks.due("map of page " + p, Checks.outcome(() -> x.map(5, p, 4)), is ? "true" : Checks.OUTSIDE);
            for (int address = 0; address < 128; address++) {
                int a = address;
                String want = a / 16 == p ? "4" : Checks.MISSING;
                Checks.due("read at " + a, Checks.outcome(() -> x.read(5, a)), want);
            }
        }
    }

    private static void cellsAreInts() {
        FrameSharer x = Keepers.opened(1, 1);
        x.map(0, 0, 0);
        for (int bit = 0; bit < 32; bit++) {
            x.write(0, bit % 16, 1 << bit);
            Checks.due("bit " + bit, x.read(0, bit % 16), 1 << bit);
        }
        for (int v : new int[] {Integer.MIN_VALUE, -1, 0, 1, Integer.MAX_VALUE}) {
            x.write(0, 15, v);
            Checks.due("value " + v, x.read(0, 15), v);
        }
    }

    private static void addresses() {
        for (int page = 0; page < 8; page++) {
            FrameSharer x = Keepers.wholeSpace(8, 100);
            for (int cell = 0; cell < 16; cell++) {
                x.write(0, page * 16 + cell, cell);
            }
            x.lend(0, page, 0, 7 - page);
            for (int cell = 0; cell < 16; cell++) {
                Checks.due("cell of the copy", x.read(0, (7 - page) * 16 + cell), cell);
            }
            for (int other = 0; other < 8; other++) {
                if (other != page && other != 7 - page) {
                    Checks.due("first cell of another page", x.read(0, other * 16), 100 + other);
                    Checks.due("last cell of another page", x.read(0, other * 16 + 15), 100 + other);
                }
            }
        }
        FrameSharer y = Keepers.wholeSpace(8, 100);
        Checks.due("the first address", y.read(0, 0), 100);
        Checks.due("the last address", y.read(0, 127), 107);
        Checks.dueThrow("below the first", Checks.OUTSIDE, () -> y.read(0, -1));
        Checks.dueThrow("above the last", Checks.OUTSIDE, () -> y.read(0, 128));
    }

    private static void whichPictures() {
        Supplier<FrameSharer> made = () -> Keepers.wholeSpace(9, 1);
        int[] numbers = {-1, 0, 1, 7, 8};
        Checks.refusedEach("back", numbers, made, Checks.MISSING, FrameSharer::back);
        Checks.refusedEach("drop", numbers, made, Checks.MISSING, FrameSharer::drop);
        Checks.refusedEach("changed", numbers, made, Checks.MISSING, FrameSharer::changed);
        FrameSharer x = made.get();
        for (int picture = 0; picture < 8; picture++) {
            Checks.due("take", x.take(), picture);
        }
        Checks.due("no ninth", x.take(), -1);
        for (int picture = -1; picture <= 8; picture++) {
            int p = picture;
            boolean is = p >= 0 && p <= 7;
            Checks.due("changed " + p, Checks.outcome(() -> x.changed(p)), is ? "0" : Checks.MISSING);
        }
    }

    /** Each of the eight pictures has other spaces and other cells, and keeps them. */
    private static void picturesHoldAll() {
        FrameSharer x = new FrameSharer(60);
        for (int picture = 0; picture < 8; picture++) {
            if (picture < 6) {
                x.open();
                x.map(picture, 7, 10);
            } else {
                x.close(picture - 6);
            }
            x.write(5 < picture ? 5 : picture, 112, 20 + picture);
            x.take();
        }
        for (int picture = 7; picture >= 0; picture--) {
            Checks.due("back " + picture, x.back(picture), picture < 6 ? picture + 1 : 11 - picture);
            Checks.due("space 0", x.isThere(0), picture < 6);
            Checks.due("space 1", x.isThere(1), picture > 0 && picture < 7);
            Checks.due("space 5", x.isThere(5), picture > 4);
            Checks.due("its last write", x.read(picture > 5 ? 5 : picture, 112), 20 + picture);
        }
    }

    private static void framesInUse() {
        FrameSharer x = Keepers.opened(9, 2);
        Checks.due("no holder", x.count(0), 0);
        x.map(0, 0, 1);
        Checks.due("one holder", x.count(0), 1);
        x.lend(0, 0, 1, 5);
        x.take();
        Checks.due("four holders in one", x.count(0), 1);
        x.map(1, 0, 1);
        Checks.due("five holders in two", x.count(0), 2);
        x.unmap(0, 0);
        x.unmap(1, 5);
        Checks.due("a picture's holders and one more", x.count(0), 2);
        x.drop(0);
        Checks.due("one holder again", x.count(0), 1);
        x.close(1);
        Checks.due("no holder again", x.count(0), 0);
    }

    private static void newPageAlone() {
        FrameSharer x = Keepers.opened(9, 2);
        x.map(0, 0, 1);
        x.map(0, 1, 1);
        x.map(1, 0, 1);
        Checks.due("frames of three pages with the same cells", x.count(0), 3);
        Checks.due("holders", x.holders(0, 0) + x.holders(0, 1) + x.holders(1, 0), 3);
        x.write(0, 0, 2);
        Checks.due("the others' cells", x.read(0, 16) + x.read(1, 0), 2);
    }

    private static void copiesShare() {
        FrameSharer x = Keepers.opened(1, 1);
        x.map(0, 0, 1);
        x.fork(0);
        Checks.due("in a forked space", x.holders(1, 0), 2);
        x.take();
        Checks.due("in a picture", x.holders(1, 0), 4);
        x.close(0);
        x.back(0);
        Checks.due("back from one", x.holders(0, 0), 4);
        Checks.due("frames", x.count(0), 1);
    }

    private static void writeParts() {
        FrameSharer x = Keepers.opened(4, 1);
        x.map(0, 0, 1);
        x.write(0, 0, 2);
        Checks.due("no other holder: the same frame", x.count(0), 1);
        x.fork(0);
        x.write(0, 1, 3);
        Checks.due("one other holder: two frames", x.count(0), 2);
        Checks.due("with the same cells", x.read(0, 0) * 10 + x.read(0, 2), 21);
        Checks.due("the other stays", x.read(1, 1), 1);
        x.take();
        x.write(0, 1, 4);
        Checks.due("one other in a picture: three frames", x.count(0), 3);
        x.write(0, 2, 5);
        Checks.due("alone again: the same frame", x.count(0), 3);
    }

    private static void allInUse() {
        for (int frames : new int[] {1, 2, 8, 46, 47, 59, 60}) {
            Supplier<FrameSharer> full = () -> using(frames, frames);
            Checks.due("in use of " + frames, full.get().count(0), frames);
            Checks.refused("map, frames " + frames, full, Checks.NO_FRAME, x -> x.map(5, 7, 1));
            Checks.refused("write, frames " + frames, full, Checks.NO_FRAME, x -> x.write(0, 16, 1));
            FrameSharer x = using(frames, frames - 1);
            Checks.due("map into the last of " + frames, x.map(5, 7, 1), true);
            Checks.dueThrow("map of one more", Checks.NO_FRAME, () -> x.map(5, 6, 1));
            if (frames > 1) {
                FrameSharer y = using(frames, frames - 1);
                Checks.due("write into the last of " + frames, y.write(0, 0, 1), 4);
                Checks.dueThrow("write of one more", Checks.NO_FRAME, () -> y.write(0, 16, 1));
            }
        }
    }

    /**
     * A keeper with so many frames in use. If there is one, pages 0 and 1 of space 0 share it, with each
     * other and with a picture; pages 6 and 7 of space 5 are absent.
     */
    private static FrameSharer using(int frames, int used) {
        FrameSharer x = Keepers.opened(frames, 6);
        for (int page = 0; page < 46 && x.count(0) < used; page++) {
            if (page != 1) {
                x.map(page / 8, page % 8, 4);
            }
        }
        x.lend(0, 0, 0, 1);
        x.take();
        for (int page = 2; page < 46 && x.count(0) < used; page++) {
            x.write(page / 8, page % 8 * 16, 5);
        }
        return x;
    }

    /** The writer would leave its frame, but it is counted there: no frame is free for it. */
    private static void goingHoldersCount() {
        Supplier<FrameSharer> pair = () -> {
            FrameSharer x = Keepers.opened(1, 1);
            x.map(0, 0, 1);
            x.lend(0, 0, 0, 1);
            return x;
        };
        Checks.refused("write of the first of two", pair, Checks.NO_FRAME, x -> x.write(0, 0, 2));
        Checks.refused("write of the second of two", pair, Checks.NO_FRAME, x -> x.write(0, 16, 2));
        Supplier<FrameSharer> withPicture = Keepers.after(pair, x -> {
            x.unmap(0, 1);
            x.take();
        });
        Checks.refused("write beside a picture", withPicture, Checks.NO_FRAME, x -> x.write(0, 0, 2));
    }

    private static void freeFrames() {
        dueFree("unmap", x -> x.unmap(0, 0));
        dueFree("close", x -> x.close(0));
        dueFree("a lend over it", x -> x.lend(1, 0, 0, 0));
        dueFree("a lend of absence over it", x -> x.lend(1, 1, 0, 0));
        dueFree("join", x -> x.join(1, 0, 0, 0));
        dueFree("join the other way", x -> x.join(0, 0, 1, 0));
        dueFree("back", x -> x.back(0));
        dueFree("unmap in a fork, too", x -> {
            x.fork(0);
            x.unmap(0, 0);
            x.close(2);
        });
        dueFree("drop", x -> {
            x.take();
            x.unmap(0, 0);
            x.drop(1);
        });
    }

    /** Two frames, both in use; the first is free after the calls, and a new page finds it. */
    private static void dueFree(String what, Consumer<FrameSharer> calls) {
        FrameSharer x = Keepers.opened(2, 2);
        x.map(1, 0, 1);
        x.take();
        x.map(0, 0, 1);
        Checks.dueThrow("map before " + what, Checks.NO_FRAME, () -> x.map(1, 7, 3));
        calls.accept(x);
        Checks.due("frames after " + what, x.count(0), 1);
        Checks.due("map after " + what, x.map(1, 7, 3), true);
        Checks.due("its cell", x.read(1, 127), 3);
        Checks.due("the other's cell", x.read(1, 0), 1);
        Checks.dueThrow("map of one more", Checks.NO_FRAME, () -> x.map(1, 6, 3));
    }

    private static void pictureHolds() {
        Supplier<FrameSharer> held = () -> {
            FrameSharer x = Keepers.opened(1, 1);
            x.map(0, 0, 1);
            x.take();
            x.unmap(0, 0);
            return x;
        };
        Checks.refused("map while a picture holds the frame", held, Checks.NO_FRAME, x -> x.map(0, 0, 2));
        FrameSharer x = held.get();
        x.drop(0);
        Checks.due("map when it went", x.map(0, 0, 2), true);
    }
}
