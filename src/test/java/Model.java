import java.util.ArrayList;
import java.util.Arrays;
import java.util.Collections;
import java.util.IdentityHashMap;
import java.util.List;
import java.util.NoSuchElementException;
import java.util.Set;

/**
 * A second keeper, written from the document in another way: frames are objects, nothing is counted
 * ahead, and who holds what is always found by looking at all pages.
 */
final class Model {
    private static final class Frame {
        final int[] cells = new int[16];
    }

    private final int frames;
    private Frame[][] spaces = new Frame[6][];
    private final Frame[][][] pictures = new Frame[8][][];

    Model(int frames) {
        this.frames = frames < 1 ? 1 : frames > 60 ? 60 : frames;
    }

    int open() {
        int space = Arrays.asList(spaces).indexOf(null);
        if (space >= 0) {
            spaces[space] = new Frame[8];
        }
        return space;
    }

    int fork(int space) {
        Frame[] pages = pagesOf(space);
        int twin = open();
        if (twin >= 0) {
            spaces[twin] = pages.clone();
        }
        return twin;
    }

    int close(int space) {
        int pages = present(pagesOf(space));
        spaces[space] = null;
        return pages;
    }

    boolean map(int space, int page, int v) {
        Frame[] pages = pagesOf(space);
        checkPage(page);
        if (pages[page] != null) {
            return false;
        }
        checkFrameFree();
        pages[page] = new Frame();
        Arrays.fill(pages[page].cells, v);
        return true;
    }

    boolean unmap(int space, int page) {
        Frame[] pages = pagesOf(space);
        checkPage(page);
        boolean was = pages[page] != null;
        pages[page] = null;
        return was;
    }

    int read(int space, int address) {
        return frameAt(space, address).cells[address % 16];
    }

    int write(int space, int address, int v) {
        Frame frame = frameAt(space, address);
        int was = frame.cells[address % 16];
        if (Collections.frequency(standing(), frame) > 1) {
            checkFrameFree();
            Frame own = new Frame();
            System.arraycopy(frame.cells, 0, own.cells, 0, 16);
            spaces[space][address / 16] = own;
            frame = own;
        }
        frame.cells[address % 16] = v;
        return was;
    }

    boolean lend(int from, int page, int to, int place) {
        Frame[] giver = pagesOf(from);
        Frame[] taker = pagesOf(to);
        checkPage(page);
        checkPage(place);
        Frame was = taker[place];
        taker[place] = giver[page];
        return was != taker[place];
    }

    int join(int space, int page, int other, int place) {
        Frame[] one = pagesOf(space);
        Frame[] two = pagesOf(other);
        checkPage(page);
        checkPage(place);
        Frame first = one[page];
        Frame second = two[place];
        if (first == null || second == null || first == second || !Arrays.equals(first.cells, second.cells)) {
            return 0;
        }
        int moved = 0;
        for (Frame[] pages : allPages()) {
            for (int i = 0; i < 8; i++) {
                if (pages[i] == second) {
                    pages[i] = first;
                    moved++;
                }
            }
        }
        return moved;
    }

    int take() {
        int picture = Arrays.asList(pictures).indexOf(null);
        if (picture >= 0) {
            pictures[picture] = copy(spaces);
        }
        return picture;
    }

    int back(int picture) {
        spaces = copy(pictureOf(picture));
        return count(2);
    }

    int drop(int picture) {
        pictureOf(picture);
        int before = count(0);
        pictures[picture] = null;
        return before - count(0);
    }

    int holders(int space, int page) {
        Frame[] pages = pagesOf(space);
        checkPage(page);
        return pages[page] == null ? 0 : Collections.frequency(standing(), pages[page]);
    }

    int changed(int picture) {
        Frame[][] then = pictureOf(picture);
        int different = 0;
        for (int space = 0; space < 6; space++) {
            for (int page = 0; page < 8; page++) {
                Frame a = then[space] == null ? null : then[space][page];
                Frame b = spaces[space] == null ? null : spaces[space][page];
                different += a != b ? 1 : 0;
            }
        }
        return different;
    }

    int count(int what) {
        if (what == 0) {
            Set<Frame> used = Collections.newSetFromMap(new IdentityHashMap<>());
            used.addAll(standing());
            return used.size();
        }
        if (what == 1) {
            return frames;
        }
        if (what == 2) {
            return 6 - Collections.frequency(Arrays.asList(spaces), null);
        }
        if (what == 3) {
            return 8 - Collections.frequency(Arrays.asList(pictures), null);
        }
        if (what == 4) {
            int pages = 0;
            for (Frame[] space : spaces) {
                pages += space == null ? 0 : present(space);
            }
            return pages;
        }
        return -1;
    }

    boolean isThere(int space) {
        return space >= 0 && space < 6 && spaces[space] != null;
    }

    private Frame[] pagesOf(int space) {
        if (!isThere(space)) {
            throw new NoSuchElementException();
        }
        return spaces[space];
    }

    private Frame[][] pictureOf(int picture) {
        if (picture < 0 || picture > 7 || pictures[picture] == null) {
            throw new NoSuchElementException();
        }
        return pictures[picture];
    }

    private static void checkPage(int page) {
        if (page < 0 || page > 7) {
            throw new IndexOutOfBoundsException();
        }
    }

    private Frame frameAt(int space, int address) {
        if (address < 0 || address > 127) {
            throw new IndexOutOfBoundsException();
        }
        Frame frame = pagesOf(space)[address / 16];
        if (frame == null) {
            throw new NoSuchElementException();
        }
        return frame;
    }

    private void checkFrameFree() {
        if (count(0) >= frames) {
            throw new IllegalStateException();
        }
    }

    private List<Frame[]> allPages() {
        List<Frame[]> all = new ArrayList<>();
        addSpaces(all, spaces);
        for (Frame[][] picture : pictures) {
            if (picture != null) {
                addSpaces(all, picture);
            }
        }
        return all;
    }

    private static void addSpaces(List<Frame[]> all, Frame[][] some) {
        for (Frame[] pages : some) {
            if (pages != null) {
                all.add(pages);
            }
        }
    }

    private List<Frame> standing() {
        List<Frame> all = new ArrayList<>();
        for (Frame[] pages : allPages()) {
            for (Frame frame : pages) {
                if (frame != null) {
                    all.add(frame);
                }
            }
        }
        return all;
    }

    private static int present(Frame[] pages) {
        return 8 - Collections.frequency(Arrays.asList(pages), null);
    }

    private static Frame[][] copy(Frame[][] some) {
        Frame[][] same = new Frame[6][];
        for (int space = 0; space < 6; space++) {
            same[space] = some[space] == null ? null : some[space].clone();
        }
        return same;
    }
}
