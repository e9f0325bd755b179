/** Promise 6: unmap. */
public final class Promise06UnmapTest {
    public static void main(String[] args) {
        Checks.test("A page is absent", Promise06UnmapTest::isAbsent);
        Checks.test("A page is absent: the others of its frame stay", Promise06UnmapTest::othersStay);
        Checks.test("false when it was", Promise06UnmapTest::wasAbsent);
        Checks.test("NoSuchElementException when the space isn't there", Promise06UnmapTest::missingSpace);
        Checks.test("IndexOutOfBoundsException when page is not 0 .. 7", Promise06UnmapTest::noPage);
        Checks.test("the space before the page", Promise06UnmapTest::spaceBeforePage);
        Checks.end("Promise06UnmapTest");
    }

    private static void isAbsent() {
        for (int page = 0; page < 8; page++) {
            FrameSharer x = Keepers.wholeSpace(8, 1);
            int first = page * 16;
            Checks.due("unmap of page " + page, x.unmap(0, page), true);
            Checks.due("holders after unmap", x.holders(0, page), 0);
            Checks.due("frames after unmap", x.count(0), 7);
            Checks.due("pages after unmap", x.count(4), 7);
            Checks.dueThrow("read of its first cell", Checks.MISSING, () -> x.read(0, first));
            Checks.dueThrow("read of its last cell", Checks.MISSING, () -> x.read(0, first + 15));
            Checks.due("map after unmap", x.map(0, page, 2), true);
        }
    }

    private static void othersStay() {
        FrameSharer x = Keepers.opened(3, 1);
        x.map(0, 2, 4);
        x.fork(0);
        x.take();
        Checks.due("unmap of a shared page", x.unmap(0, 2), true);
        Checks.due("the fork's cell", x.read(1, 32), 4);
        Checks.due("holders that stay", x.holders(1, 2), 3);
        Checks.due("unmap of the fork's", x.unmap(1, 2), true);
        Checks.due("the picture's frame stays", x.count(0), 1);
        x.back(0);
        Checks.due("the picture's cell", x.read(0, 32), 4);
    }

    private static void wasAbsent() {
        Checks.refused("unmap of a page never there", Keepers.BUSY, false, x -> x.unmap(0, 1));
        Checks.refused("unmap of an absent first page", Keepers.CROWDED, false, x -> x.unmap(2, 0));
        Checks.refused("unmap of an absent last page", Keepers.BUSY, false, x -> x.unmap(3, 7));
        Checks.refused("unmap, no frame free", Keepers.NO_FRAME_LEFT, false, x -> x.unmap(1, 6));
        Checks.refused(
                "unmap twice", Keepers.after(Keepers.BUSY, x -> x.unmap(0, 0)), false, x -> x.unmap(0, 0));
        FrameSharer x = Keepers.BUSY.get();
        Checks.due("unmap of a page there", x.unmap(0, 0), true);
        Checks.due("unmap of one lent to absence", x.lend(0, 0, 0, 7) && x.unmap(0, 7), false);
    }

    private static void missingSpace() {
        Alike.missingSpace("unmap", Keepers.BUSY, FrameSharer::unmap);
    }

    private static void noPage() {
        Alike.noPage("unmap", Keepers.BUSY, FrameSharer::unmap);
        FrameSharer x = Keepers.BUSY.get();
        Checks.due("unmap of page 0", x.unmap(0, 0), true);
        Checks.due("unmap of page 7", x.unmap(0, 7), true);
    }

    private static void spaceBeforePage() {
        Alike.spaceBeforePage("unmap", Keepers.BUSY, FrameSharer::unmap);
    }
}
