import java.util.ArrayList;
import java.util.List;
import java.util.function.Supplier;

/**
 * All that calls can tell of a keeper: what there is, every cell, who shares a frame with whom, the
 * same after going back to each picture, and what comes next. Questions that change the keeper, or
 * would go beyond its 512 calls, are put to another one made in the same way.
 */
final class Look {
    private Look() {
    }

    static List<String> at(Supplier<FrameSharer> made) {
        List<String> lines = new ArrayList<>();
        spaces(lines, "now", made);
        next(lines, made);
        for (int picture = 0; picture < 8; picture++) {
            int p = picture;
            String freed = Checks.outcome(() -> made.get().drop(p));
            lines.add("drop " + p + " = " + freed);
            if (!freed.startsWith("throws.")) {
                lines.add("without picture " + p + ": " + standing(Keepers.after(made, x -> x.drop(p)).get()));
                spaces(lines, "back " + p, Keepers.after(made, x -> x.back(p)));
            }
        }
        return lines;
    }

    static String difference(List<String> got, List<String> want) {
        for (int i = 0; i < Math.min(got.size(), want.size()); i++) {
            if (!got.get(i).equals(want.get(i))) {
                return "[" + got.get(i) + "] instead of [" + want.get(i) + "]";
            }
        }
        return got.size() == want.size() ? "what was before" : got.size() + " lines instead of " + want.size();
    }

    /** The spaces as they are, and, for each page, who is left when it goes. */
    static void spaces(List<String> lines, String name, Supplier<FrameSharer> made) {
        lines.add(name + ": " + standing(made.get()));
        for (int space = 0; space < 6; space++) {
            int s = space;
            if (!made.get().isThere(s)) {
                continue;
            }
            lines.add(name + ", cells of " + s + ": " + cells(made.get(), s));
            for (int page = 0; page < 8; page++) {
                int p = page;
                if (made.get().holders(s, p) > 0) {
                    FrameSharer without = Keepers.after(made, x -> x.unmap(s, p)).get();
                    lines.add(name + ", without " + s + "." + p + ": " + standing(without));
                }
            }
        }
    }

    /** Which numbers open and take give next, what is in them, and which pages still find a frame. */
    private static void next(List<String> lines, Supplier<FrameSharer> made) {
        FrameSharer x = made.get();
        StringBuilder numbers = new StringBuilder();
        for (int i = 0; i < 6; i++) {
            numbers.append(x.open()).append(' ');
        }
        for (int i = 0; i < 8; i++) {
            numbers.append(x.take()).append(' ');
        }
        lines.add("next: " + numbers + standing(x));
        StringBuilder maps = new StringBuilder();
        for (int i = 0; i < 48; i++) {
            int page = i;
            maps.append(Checks.outcome(() -> x.map(page / 8, page % 8, 77))).append(' ');
        }
        lines.add("filled: " + maps + standing(x));
    }

    /** Counts, spaces, holders and what differs from each picture: at most 67 calls. */
    private static String standing(FrameSharer x) {
        StringBuilder all = new StringBuilder();
        for (int what = 0; what < 5; what++) {
            all.append(x.count(what)).append(' ');
        }
        for (int space = 0; space < 6; space++) {
            if (x.isThere(space)) {
                all.append("| ").append(space).append(':');
                for (int page = 0; page < 8; page++) {
                    all.append(' ').append(x.holders(space, page));
                }
            }
        }
        for (int picture = 0; picture < 8; picture++) {
            int p = picture;
            all.append(" | ").append(Checks.outcome(() -> x.changed(p)));
        }
        return all.toString();
    }

    private static String cells(FrameSharer x, int space) {
        StringBuilder all = new StringBuilder();
        for (int address = 0; address < 128; address++) {
            int a = address;
            String cell = Checks.outcome(() -> x.read(space, a));
            all.append(cell.equals(Checks.MISSING) ? "-" : cell).append(' ');
        }
        return all.toString();
    }
}
