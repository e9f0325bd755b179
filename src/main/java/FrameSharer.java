import java.util.Arrays;
import java.util.NoSuchElementException;

/**
 * A keeper of pages: spaces of pages that are shared until one of them is written, pictures of all
 * spaces that are taken and gone back to, and frames that are counted, given back, and run out.
 */
public final class FrameSharer {
    private static final int SPACES = 6;
    private static final int PAGES = 8;
    private static final int CELLS = 16;
    private static final int ADDRESSES = PAGES * CELLS;
    private static final int PICTURES = 8;
    private static final int FEWEST_FRAMES = 1;
    private static final int MOST_FRAMES = 60;

    /** A row has the pages of all spaces at one time; picture p is row p, the spaces now are the last. */
    private static final int NOW = PICTURES;
    private static final int ROWS = PICTURES + 1;
    private static final int ROW_PAGES = SPACES * PAGES;

    /** No frame (the page is absent), no space, no picture. */
    private static final int NONE = -1;

    private final int frameTotal;
    private final int[] cells;
    private final int[] holdersOfFrame;
    private final int[] frameOfHolder;
    private final boolean[] spaceInRow;
    private final boolean[] pictureThere;

    public FrameSharer(int frames) {
        frameTotal = Math.max(FEWEST_FRAMES, Math.min(MOST_FRAMES, frames));
        cells = new int[frameTotal * CELLS];
        holdersOfFrame = new int[frameTotal];
        frameOfHolder = new int[ROWS * ROW_PAGES];
        Arrays.fill(frameOfHolder, NONE);
        spaceInRow = new boolean[ROWS * SPACES];
        pictureThere = new boolean[PICTURES];
    }

    public int open() {
        int space = leastMissingSpace();
        if (space != NONE) {
            spaceInRow[spaceIndex(NOW, space)] = true;
        }
        return space;
    }

    public int fork(int space) throws NoSuchElementException {
        needSpace(space);
        int twin = leastMissingSpace();
        if (twin == NONE) {
            return NONE;
        }
        spaceInRow[spaceIndex(NOW, twin)] = true;
        for (int page = 0; page < PAGES; page++) {
            standIn(pageNow(twin, page), frameOfHolder[pageNow(space, page)]);
        }
        return twin;
    }

    public int close(int space) throws NoSuchElementException {
        needSpace(space);
        int pages = pagesOfSpace(space);
        for (int page = 0; page < PAGES; page++) {
            standIn(pageNow(space, page), NONE);
        }
        spaceInRow[spaceIndex(NOW, space)] = false;
        return pages;
    }

    public boolean map(int space, int page, int v)
            throws NoSuchElementException, IndexOutOfBoundsException, IllegalStateException {
        needSpace(space);
        needPage(page);
        int holder = pageNow(space, page);
        if (isFrame(frameOfHolder[holder])) {
            return false;
        }
        int frame = needFreeFrame();
        fillFrame(frame, v);
        standIn(holder, frame);
        return true;
    }

    public boolean unmap(int space, int page) throws NoSuchElementException, IndexOutOfBoundsException {
        needSpace(space);
        needPage(page);
        int holder = pageNow(space, page);
        boolean wasThere = isFrame(frameOfHolder[holder]);
        standIn(holder, NONE);
        return wasThere;
    }

    public int read(int space, int address) throws IndexOutOfBoundsException, NoSuchElementException {
        int frame = frameOfHolder[needHolderAt(space, address)];
        return cells[cellIndex(frame, address)];
    }

    public int write(int space, int address, int v)
            throws IndexOutOfBoundsException, NoSuchElementException, IllegalStateException {
        int frame = needOwnFrame(needHolderAt(space, address));
        int cell = cellIndex(frame, address);
        int before = cells[cell];
        cells[cell] = v;
        return before;
    }

    public boolean lend(int from, int page, int to, int place)
            throws NoSuchElementException, IndexOutOfBoundsException {
        needTwoPages(from, page, to, place);
        int frame = frameOfHolder[pageNow(from, page)];
        int holder = pageNow(to, place);
        boolean moves = frameOfHolder[holder] != frame;
        standIn(holder, frame);
        return moves;
    }

    public int join(int space, int page, int other, int place)
            throws NoSuchElementException, IndexOutOfBoundsException {
        needTwoPages(space, page, other, place);
        int first = frameOfHolder[pageNow(space, page)];
        int second = frameOfHolder[pageNow(other, place)];
        if (first == second || !isFrame(first) || !isFrame(second) || !haveSameCells(first, second)) {
            return 0;
        }
        int moved = holdersOfFrame[second];
        moveHolders(second, first);
        return moved;
    }

    public int take() {
        int picture = leastMissingPicture();
        if (picture != NONE) {
            pictureThere[picture] = true;
            copyRow(NOW, picture);
        }
        return picture;
    }

    public int back(int picture) throws NoSuchElementException {
        needPicture(picture);
        copyRow(picture, NOW);
        return spacesNow();
    }

    public int drop(int picture) throws NoSuchElementException {
        needPicture(picture);
        int before = framesInUse();
        clearRow(picture);
        pictureThere[picture] = false;
        return before - framesInUse();
    }

    public int holders(int space, int page) throws NoSuchElementException, IndexOutOfBoundsException {
        needSpace(space);
        needPage(page);
        int frame = frameOfHolder[pageNow(space, page)];
        return isFrame(frame) ? holdersOfFrame[frame] : 0;
    }

    public int changed(int picture) throws NoSuchElementException {
        needPicture(picture);
        int different = 0;
        // A space that isn't there has only absent pages in its row, so all spaces can be compared.
        for (int i = 0; i < ROW_PAGES; i++) {
            if (frameOfHolder[NOW * ROW_PAGES + i] != frameOfHolder[picture * ROW_PAGES + i]) {
                different++;
            }
        }
        return different;
    }

    public int count(int what) {
        switch (what) {
            case 0:
                return framesInUse();
            case 1:
                return frameTotal;
            case 2:
                return spacesNow();
            case 3:
                return picturesNow();
            case 4:
                return pagesNow();
            default:
                return NONE;
        }
    }

    public boolean isThere(int space) {
        return space >= 0 && space < SPACES && spaceInRow[spaceIndex(NOW, space)];
    }

    private void needSpace(int space) {
        if (!isThere(space)) {
            throw new NoSuchElementException("this space is not there");
        }
    }

    private void needPage(int page) {
        if (page < 0 || page >= PAGES) {
            throw new IndexOutOfBoundsException("a page is 0 to 7");
        }
    }

    /** Both spaces come before both pages: a space that isn't there outweighs any wrong page. */
    private void needTwoPages(int space, int page, int other, int place) {
        needSpace(space);
        needSpace(other);
        needPage(page);
        needPage(place);
    }

    private void needPicture(int picture) {
        if (picture < 0 || picture >= PICTURES || !pictureThere[picture]) {
            throw new NoSuchElementException("this picture is not there");
        }
    }

    /** The holder of an address; its page is there, so it stands in a frame. */
    private int needHolderAt(int space, int address) {
        if (address < 0 || address >= ADDRESSES) {
            throw new IndexOutOfBoundsException("an address is 0 to 127");
        }
        needSpace(space);
        int holder = pageNow(space, address / CELLS);
        if (!isFrame(frameOfHolder[holder])) {
            throw new NoSuchElementException("this page is absent");
        }
        return holder;
    }

    private int needFreeFrame() {
        for (int frame = 0; frame < frameTotal; frame++) {
            if (holdersOfFrame[frame] == 0) {
                return frame;
            }
        }
        throw new IllegalStateException("all frames are in use");
    }

    /** The frame in which a holder stands alone, after a move out of a shared one if need be. */
    private int needOwnFrame(int holder) {
        int shared = frameOfHolder[holder];
        if (holdersOfFrame[shared] == 1) {
            return shared;
        }
        int own = needFreeFrame();
        System.arraycopy(cells, shared * CELLS, cells, own * CELLS, CELLS);
        standIn(holder, own);
        return own;
    }

    /** The only place where a holder changes its frame, so that the holders are always counted right. */
    private void standIn(int holder, int frame) {
        int before = frameOfHolder[holder];
        if (isFrame(before)) {
            holdersOfFrame[before]--;
        }
        if (isFrame(frame)) {
            holdersOfFrame[frame]++;
        }
        frameOfHolder[holder] = frame;
    }

    private void moveHolders(int from, int to) {
        for (int holder = 0; holder < ROWS * ROW_PAGES; holder++) {
            if (frameOfHolder[holder] == from) {
                standIn(holder, to);
            }
        }
    }

    private void copyRow(int from, int to) {
        for (int space = 0; space < SPACES; space++) {
            spaceInRow[spaceIndex(to, space)] = spaceInRow[spaceIndex(from, space)];
        }
        for (int i = 0; i < ROW_PAGES; i++) {
            standIn(to * ROW_PAGES + i, frameOfHolder[from * ROW_PAGES + i]);
        }
    }

    private void clearRow(int row) {
        // Which spaces a dropped picture had need not be cleared: the next take writes that anew.
        for (int i = 0; i < ROW_PAGES; i++) {
            standIn(row * ROW_PAGES + i, NONE);
        }
    }

    private void fillFrame(int frame, int v) {
        for (int i = 0; i < CELLS; i++) {
            cells[frame * CELLS + i] = v;
        }
    }

    private boolean haveSameCells(int first, int second) {
        for (int i = 0; i < CELLS; i++) {
            if (cells[first * CELLS + i] != cells[second * CELLS + i]) {
                return false;
            }
        }
        return true;
    }

    private int leastMissingSpace() {
        for (int space = 0; space < SPACES; space++) {
            if (!spaceInRow[spaceIndex(NOW, space)]) {
                return space;
            }
        }
        return NONE;
    }

    private int leastMissingPicture() {
        for (int picture = 0; picture < PICTURES; picture++) {
            if (!pictureThere[picture]) {
                return picture;
            }
        }
        return NONE;
    }

    private int framesInUse() {
        int used = 0;
        for (int frame = 0; frame < frameTotal; frame++) {
            if (holdersOfFrame[frame] > 0) {
                used++;
            }
        }
        return used;
    }

    private int spacesNow() {
        int there = 0;
        for (int space = 0; space < SPACES; space++) {
            if (spaceInRow[spaceIndex(NOW, space)]) {
                there++;
            }
        }
        return there;
    }

    private int picturesNow() {
        int there = 0;
        for (int picture = 0; picture < PICTURES; picture++) {
            if (pictureThere[picture]) {
                there++;
            }
        }
        return there;
    }

    private int pagesNow() {
        int there = 0;
        for (int space = 0; space < SPACES; space++) {
            there += pagesOfSpace(space);
        }
        return there;
    }

    private int pagesOfSpace(int space) {
        int there = 0;
        for (int page = 0; page < PAGES; page++) {
            if (isFrame(frameOfHolder[pageNow(space, page)])) {
                there++;
            }
        }
        return there;
    }

    private boolean isFrame(int frame) {
        return frame >= 0 && frame < frameTotal;
    }

    private static int spaceIndex(int row, int space) {
        return row * SPACES + space;
    }

    private static int pageNow(int space, int page) {
        return NOW * ROW_PAGES + space * PAGES + page;
    }

    private static int cellIndex(int frame, int address) {
        return frame * CELLS + address % CELLS;
    }
}
