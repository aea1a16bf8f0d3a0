import java.math.BigInteger;
import java.util.ArrayDeque;
import java.util.ArrayList;
import java.util.HashMap;
import java.util.HashSet;
import java.util.List;
import java.util.Map;
import java.util.Set;
import java.util.TreeSet;

/** The document told once more, slowly: cells as points, texts read by patterns, ways by a queue. */
final class Oracle {
    static final int NONE = -1, BAD = -2, NOT = -3, FULL = -4;

    /** A cell of a SHAPE or of the house. */
    record Point(int row, int column) implements Comparable<Point> {
        public int compareTo(Point other) {
            return row != other.row ? Integer.compare(row, other.row) : Integer.compare(column, other.column);
        }
    }

    /** A stand: a CELL and how often the SHAPE is turned there. */
    record Stand(int t, int cell) { }

    private final StringBuilder[] texts = {new StringBuilder(), new StringBuilder()};
    private final List<int[]> seen = new ArrayList<>();
    private final Object[] sheets = new Object[4];
    private int finding = 0;

    // texts

    int type(int text, int b) {
        if (text < 0 || text > 1 || b < 0 || b > 255) return BAD;
        if (texts[text].length() == (text == 0 ? 40 : 71)) return FULL;
        texts[text].append((char) b);
        return texts[text].length();
    }

    int wipe(int text) {
        if (text < 0 || text > 1) return BAD;
        int had = texts[text].length();
        texts[text].setLength(0);
        return had;
    }

    int undo(int text) {
        if (text < 0 || text > 1) return BAD;
        if (texts[text].length() == 0) return NOT;
        texts[text].setLength(texts[text].length() - 1);
        return texts[text].length();
    }

    /** The length of the longest beginning that some well text begins with, unless all of it is well. */
    int fault(int text) {
        if (text < 0 || text > 1) return BAD;
        String all = texts[text].toString();
        if (text == 0 ? isWellShapes(all) : isWellHouse(all)) return NONE;
        for (int n = 0; n < all.length(); n++) {
            String begun = all.substring(0, n + 1);
            if (!(text == 0 ? canBecomeShapes(begun) : canBecomeHouse(begun))) return n;
        }
        return all.length();
    }

    private static boolean isWellShapes(String all) {
        if (all.isEmpty()) return true;
        if (!all.matches("[0-9a-f]{4}(;[0-9a-f]{4}){0,7}")) return false;
        for (String each : all.split(";")) {
            if (each.equals("0000")) return false;
        }
        return true;
    }

    private static boolean canBecomeShapes(String begun) {
        if (isWellShapes(begun)) return true;
        String[] endings = {"1", "01", "001", "0001"};
        for (String ending : endings) {
            if (isWellShapes(begun + ending)) return true;
        }
        // a ; behind the eighth is still no fault by itself: the ninth is
        return begun.length() == 40 && begun.endsWith(";") && isWellShapes(begun.substring(0, 39));
    }

    private static boolean isWellHouse(String all) {
        if (all.isEmpty()) return true;
        if (!all.matches("[.#]{1,8}(;[.#]{1,8}){0,7}")) return false;
        String[] rows = all.split(";");
        for (String row : rows) {
            if (row.length() != rows[0].length()) return false;
        }
        return true;
    }

    private static boolean canBecomeHouse(String begun) {
        if (isWellHouse(begun)) return true;
        for (int n = 1; n <= 8; n++) {
            if (isWellHouse(begun + "#".repeat(n))) return true;
        }
        boolean ended = begun.endsWith(";") && !begun.endsWith(";;") && begun.length() > 1;
        return ended && isWellHouse(begun.substring(0, begun.length() - 1));
    }

    // shapes

    private List<Set<Point>> shapes() {
        List<Set<Point>> all = new ArrayList<>();
        if (texts[0].length() == 0 || fault(0) != NONE) return all;
        for (String each : texts[0].toString().split(";")) {
            all.add(points(Integer.parseInt(each, 16)));
        }
        return all;
    }

    private static Set<Point> points(int number) {
        Set<Point> cells = new TreeSet<>();
        String bits = Integer.toBinaryString(number + 65536).substring(1);
        for (int i = 0; i < 16; i++) {
            if (bits.charAt(i) == '1') cells.add(new Point(i / 4, i % 4));
        }
        return cells;
    }

    private static int number(Set<Point> cells) {
        int[] weights = {4096, 256, 16, 1};
        int[] bits = {8, 4, 2, 1};
        int sum = 0;
        for (Point p : cells) sum += weights[p.row] * bits[p.column];
        return sum;
    }

    private static Set<Point> turned(Set<Point> cells, int t) {
        if (t == 0) return cells;
        Set<Point> result = new TreeSet<>();
        for (Point p : turned(cells, t - 1)) result.add(new Point(p.column, 3 - p.row));
        return result;
    }

    private static Set<Point> mirrored(Set<Point> cells) {
        Set<Point> result = new TreeSet<>();
        for (Point p : cells) result.add(new Point(p.row, 3 - p.column));
        return result;
    }

    private static Set<Point> movedUp(Set<Point> cells) {
        int row = cells.stream().mapToInt(Point::row).min().orElse(0);
        int column = cells.stream().mapToInt(Point::column).min().orElse(0);
        Set<Point> result = new TreeSet<>();
        for (Point p : cells) result.add(new Point(p.row - row, p.column - column));
        return result;
    }

    private static boolean one(Set<Point> a, Set<Point> b) {
        for (int t = 0; t < 4; t++) {
            if (movedUp(turned(a, t)).equals(movedUp(b))) return true;
        }
        return false;
    }

    private static boolean outside(int n, int below) {
        return n < 0 || n >= below;
    }

    int shape(int shape, int t) {
        if (outside(shape, shapes().size()) || outside(t, 4)) return BAD;
        return number(turned(shapes().get(shape), t));
    }

    int made(int rows, int what) {
        if (rows < 1 || rows > 65535 || outside(what, 3)) return BAD;
        Set<Point> cells = points(rows);
        return number(what == 0 ? turned(cells, 1) : what == 1 ? mirrored(cells) : movedUp(cells));
    }

    private static int sightOf(Set<Point> cells, int side) {
        int[] off = new int[4];
        for (Point p : cells) {
            int line = side % 2 == 0 ? p.column : p.row;
            int far = side == 0 ? p.row + 1 : side == 1 ? 4 - p.column : side == 2 ? 4 - p.row : p.column + 1;
            off[line] = off[line] == 0 ? far : Math.min(off[line], far);
        }
        return 125 * off[0] + 25 * off[1] + 5 * off[2] + off[3];
    }

    int sight(int shape, int t, int side) {
        if (outside(shape, shapes().size()) || outside(t, 4) || outside(side, 4)) return BAD;
        return sightOf(turned(shapes().get(shape), t), side);
    }

    private static List<Point> beside(Point p) {
        return List.of(new Point(p.row - 1, p.column), new Point(p.row + 1, p.column),
            new Point(p.row, p.column - 1), new Point(p.row, p.column + 1));
    }

    private static boolean whole(Set<Point> cells) {
        Set<Point> reached = new HashSet<>();
        ArrayDeque<Point> queue = new ArrayDeque<>();
        queue.add(cells.iterator().next());
        while (!queue.isEmpty()) {
            Point p = queue.remove();
            if (cells.contains(p) && reached.add(p)) queue.addAll(beside(p));
        }
        return reached.size() == cells.size();
    }

    int form(int shape, int what) {
        if (outside(shape, shapes().size()) || outside(what, 3)) return BAD;
        Set<Point> cells = shapes().get(shape);
        if (what == 0) return whole(cells) ? 1 : 0;
        if (what == 2) return cells.size();
        int sides = 0;
        for (Point p : cells) {
            for (Point q : beside(p)) sides += cells.contains(q) ? 0 : 1;
        }
        return sides;
    }

    int kin(int shape, int what) {
        if (outside(shape, shapes().size()) || outside(what, 2)) return BAD;
        Set<Point> own = shapes().get(shape);
        int bits = 0;
        for (int i = 0; i < shapes().size(); i++) {
            if (one(what == 0 ? own : mirrored(own), shapes().get(i))) bits += 1 << i;
        }
        return bits;
    }

    int self(int shape) {
        if (outside(shape, shapes().size())) return BAD;
        Set<Point> own = shapes().get(shape);
        int t = 1;
        while (!movedUp(turned(own, t)).equals(movedUp(own))) t++;
        return t;
    }

    // house

    private Set<Integer> free() {
        Set<Integer> cells = new TreeSet<>();
        if (texts[1].length() == 0 || fault(1) != NONE) return cells;
        String[] rows = texts[1].toString().split(";");
        for (int r = 0; r < rows.length; r++) {
            for (int c = 0; c < rows[r].length(); c++) {
                if (rows[r].charAt(c) == '.') cells.add(8 * r + c);
            }
        }
        return cells;
    }

    /** The CELLS that a SHAPE covers in a stand; null if it cannot stand so. */
    private static Set<Integer> covered(Set<Point> cells, int cell, Set<Integer> free) {
        Set<Integer> result = new HashSet<>();
        for (Point p : cells) {
            int row = cell / 8 + p.row;
            int column = cell % 8 + p.column;
            if (row > 7 || column > 7 || !free.contains(8 * row + column)) return null;
            result.add(8 * row + column);
        }
        return result;
    }

    private boolean noStand(int shape, int t, int cell) {
        return outside(shape, shapes().size()) || outside(t, 4) || outside(cell, 64);
    }

    int stands(int shape, int t, int cell) {
        if (noStand(shape, t, cell)) return BAD;
        return covered(turned(shapes().get(shape), t), cell, free()) == null ? 0 : 1;
    }

    private Map<Stand, Integer> ways(int shape, int t, int from) {
        Set<Point> own = shapes().get(shape);
        Set<Integer> free = free();
        Map<Stand, Integer> steps = new HashMap<>();
        ArrayDeque<Stand> queue = new ArrayDeque<>();
        steps.put(new Stand(t, from), 0);
        queue.add(new Stand(t, from));
        while (!queue.isEmpty()) {
            Stand now = queue.remove();
            List<Stand> nexts = new ArrayList<>();
            if (now.cell / 8 > 0) nexts.add(new Stand(now.t, now.cell - 8));
            if (now.cell / 8 < 7) nexts.add(new Stand(now.t, now.cell + 8));
            if (now.cell % 8 > 0) nexts.add(new Stand(now.t, now.cell - 1));
            if (now.cell % 8 < 7) nexts.add(new Stand(now.t, now.cell + 1));
            nexts.add(new Stand((now.t + 1) % 4, now.cell));
            nexts.add(new Stand((now.t + 3) % 4, now.cell));
            for (Stand next : nexts) {
                if (steps.containsKey(next) || covered(turned(own, next.t), next.cell, free) == null) continue;
                steps.put(next, steps.get(now) + 1);
                queue.add(next);
            }
        }
        return steps;
    }

    int through(int shape, int t, int from, int u, int to) {
        if (noStand(shape, t, from) || noStand(shape, u, to)) return BAD;
        if (stands(shape, t, from) == 0 || stands(shape, u, to) == 0) return NOT;
        return ways(shape, t, from).getOrDefault(new Stand(u, to), NONE);
    }

    int reach(int shape, int t, int from) {
        if (noStand(shape, t, from)) return BAD;
        if (stands(shape, t, from) == 0) return NOT;
        return (int) ways(shape, t, from).keySet().stream().map(Stand::cell).distinct().count();
    }

    int meet(int a, int t, int from, int b, int u, int to) {
        if (noStand(a, t, from) || noStand(b, u, to)) return BAD;
        Set<Integer> first = covered(turned(shapes().get(a), t), from, free());
        Set<Integer> second = covered(turned(shapes().get(b), u), to, free());
        if (first == null || second == null) return 0;
        first.retainAll(second);
        return first.isEmpty() ? 1 : 0;
    }

    // which it is

    int seen(int side, int sight) {
        if (outside(side, 4) || outside(sight, 625)) return BAD;
        if (seen.size() == 8) return FULL;
        seen.add(new int[] {side, sight});
        return seen.size();
    }

    int forget() {
        int had = seen.size();
        seen.clear();
        return had;
    }

    /** The pairs that FIT, each as {SHAPE, t}. */
    private List<int[]> pairs() {
        List<int[]> result = new ArrayList<>();
        List<Set<Point>> all = shapes();
        for (int i = 0; i < all.size(); i++) {
            for (int t = 0; t < 4; t++) {
                Set<Point> cells = turned(all.get(i), t);
                if (seen.stream().allMatch(one -> sightOf(cells, one[0]) == one[1])) result.add(new int[] {i, t});
            }
        }
        return result;
    }

    int fits(int what) {
        if (outside(what, 2)) return BAD;
        if (what == 0) return pairs().size();
        return pairs().stream().mapToInt(p -> 1 << p[0]).distinct().sum();
    }

    int look(int what) {
        if (outside(what, 2)) return BAD;
        List<int[]> fitting = pairs();
        if (fitting.isEmpty()) return NOT;
        List<Set<Point>> all = shapes();
        int best = -1;
        int left = 99;
        for (int side = 0; side < 4; side++) {
            Map<Integer, Set<Integer>> by = new HashMap<>();
            for (int[] pair : fitting) {
                int told = sightOf(turned(all.get(pair[0]), pair[1]), side);
                by.computeIfAbsent(told, key -> new HashSet<>()).add(pair[0]);
            }
            int worst = by.values().stream().mapToInt(Set::size).max().orElse(0);
            if (worst < left) {
                best = side;
                left = worst;
            }
        }
        return what == 0 ? best : left;
    }

    // straight lines

    private static boolean sight(Set<Integer> free, int from, int to) {
        if (from / 8 != to / 8 && from % 8 != to % 8) return false;
        int step = from / 8 == to / 8 ? 1 : 8;
        for (int cell = Math.min(from, to); cell <= Math.max(from, to); cell += step) {
            if (!free.contains(cell)) return false;
        }
        return true;
    }

    private static Set<Integer> viewed(Set<Integer> free, int from) {
        Set<Integer> result = new TreeSet<>();
        for (int to : free) {
            if (sight(free, from, to)) result.add(to);
        }
        return result;
    }

    int view(int cell) {
        return free().contains(cell) ? viewed(free(), cell).size() : BAD;
    }

    int sees(int from, int to) {
        if (!free().contains(from) || !free().contains(to)) return BAD;
        return sight(free(), from, to) ? 1 : 0;
    }

    int watchers(int what) {
        if (outside(what, 3)) return BAD;
        Set<Integer> free = free();
        if (free.isEmpty()) return what == 0 ? 0 : NONE;
        Map<Integer, Set<Integer>> views = new HashMap<>();
        for (int cell : free) views.put(cell, viewed(free, cell));
        for (int first : free) {
            if (views.get(first).size() == free.size()) return new int[] {1, first, NONE}[what];
        }
        for (int first : free) {
            for (int second : free) {
                if (second <= first) continue;
                Set<Integer> both = new HashSet<>(views.get(first));
                both.addAll(views.get(second));
                if (both.size() == free.size()) return new int[] {2, first, second}[what];
            }
        }
        return NONE;
    }

    private static int echo(Set<Integer> free, int cell, int rowStep, int columnStep) {
        int row = cell / 8 + rowStep;
        int column = cell % 8 + columnStep;
        int many = 0;
        while (row >= 0 && row < 8 && column >= 0 && column < 8 && free.contains(8 * row + column)) {
            row += rowStep;
            column += columnStep;
            many++;
        }
        return many;
    }

    int echoes(int up, int right, int down, int left, int what) {
        for (int told : new int[] {up, right, down, left}) {
            if (told < -1 || told > 7) return BAD;
        }
        if (outside(what, 2)) return BAD;
        Set<Integer> free = free();
        List<Integer> places = new ArrayList<>();
        for (int cell : free) {
            boolean well = (up == NONE || up == echo(free, cell, -1, 0))
                && (right == NONE || right == echo(free, cell, 0, 1))
                && (down == NONE || down == echo(free, cell, 1, 0))
                && (left == NONE || left == echo(free, cell, 0, -1));
            if (well) places.add(cell);
        }
        return what == 0 ? places.size() : places.isEmpty() ? NONE : places.get(0);
    }

    long fog(int from, int to, int sixteenths, int what) {
        Set<Integer> free = free();
        if (!free.contains(from) || !free.contains(to) || outside(sixteenths, 17) || outside(what, 2)) {
            return Long.MIN_VALUE + 2;
        }
        BigInteger above = BigInteger.ZERO;
        BigInteger below = BigInteger.ONE;
        if (sight(free, from, to)) {
            int apart = Math.abs(from - to);
            int steps = from / 8 == to / 8 ? apart : apart / 8;
            above = BigInteger.valueOf(16 - sixteenths).pow(steps);
            below = BigInteger.valueOf(16).pow(steps);
        }
        BigInteger common = above.gcd(below);
        return (what == 0 ? above : below).divide(common).longValueExact();
    }

    // sheets

    private int found(int number) {
        finding = number;
        return -10 - number;
    }

    private static int formOf(Object sheet) {
        return sheet instanceof byte[] ? 0 : sheet instanceof short[] ? 1 : 2;
    }

    private static int sizeOf(Object sheet) {
        return java.lang.reflect.Array.getLength(sheet);
    }

    private static int itemOf(Object sheet, int i) {
        return java.lang.reflect.Array.getInt(sheet, i);
    }

    private static void put(Object sheet, int i, int v) {
        if (sheet instanceof byte[] bytes) bytes[i] = (byte) v;
        if (sheet instanceof short[] shorts) shorts[i] = (short) v;
        if (sheet instanceof int[] ints) ints[i] = v;
    }

    int sheet(int s, int form, int n) {
        if (outside(s, 4) || outside(form, 3) || n > 64) return BAD;
        if (n < 0) return found(5);
        sheets[s] = form == 0 ? new byte[n] : form == 1 ? (Object) new short[n] : new int[n];
        return n;
    }

    int lose(int s) {
        if (outside(s, 4)) return BAD;
        if (sheets[s] == null) return found(1);
        int had = sizeOf(sheets[s]);
        sheets[s] = null;
        return had;
    }

    int lay(int s, int form, int i, int v) {
        if (outside(s, 4) || outside(form, 3)) return BAD;
        if (sheets[s] == null) return found(1);
        if (formOf(sheets[s]) != form) return found(3);
        if (outside(i, sizeOf(sheets[s]))) return found(2);
        put(sheets[s], i, v);
        return 1;
    }

    int get(int s, int form, int i) {
        if (outside(s, 4) || outside(form, 3)) return Integer.MIN_VALUE;
        int number = sheets[s] == null ? 1 : formOf(sheets[s]) != form ? 3 : outside(i, sizeOf(sheets[s])) ? 2 : 0;
        if (number == 0) return itemOf(sheets[s], i);
        finding = number;
        return Integer.MIN_VALUE;
    }

    int copy(int s, int i, int t, int j, int n) {
        if (outside(s, 4) || outside(t, 4)) return BAD;
        if (sheets[s] == null || sheets[t] == null) return found(1);
        if (formOf(sheets[s]) != formOf(sheets[t])) return found(4);
        try {
            System.arraycopy(sheets[s], i, sheets[t], j, n);
        } catch (IndexOutOfBoundsException told) {
            return found(2);
        }
        return 1;
    }

    int write(int s) {
        if (outside(s, 4)) return BAD;
        if (sheets[s] == null) return found(1);
        int size = sizeOf(sheets[s]);
        for (int cell = 0; cell < size; cell++) put(sheets[s], cell, Math.max(view(cell), NONE));
        return size;
    }

    int read(int s) {
        if (outside(s, 4)) return BAD;
        if (sheets[s] == null) return found(1);
        int many = 0;
        for (int i = 0; i + 1 < sizeOf(sheets[s]); i += 2) {
            if (seen(itemOf(sheets[s], i), itemOf(sheets[s], i + 1)) < 0) break;
            many++;
        }
        return many;
    }

    int count(int what) {
        List<Set<Point>> all = shapes();
        switch (what) {
            case 0: return all.size();
            case 1: return free().size();
            case 2: case 3: return texts[what - 2].length();
            case 4: return seen.size();
            case 5: return all.stream().mapToInt(Set::size).sum();
            case 6: return (int) all.stream().filter(Oracle::whole).count();
            case 7: return (int) all.stream().filter(cells -> !one(cells, mirrored(cells))).count();
            case 8: return finding;
            default: return BAD;
        }
    }

    long digest() {
        List<Long> told = new ArrayList<>();
        for (int what = 0; what < 8; what++) told.add((long) count(what));
        for (int text = 0; text < 2; text++) told.add((long) fault(text));
        for (int it = 0; it < shapes().size(); it++) {
            for (int each : new int[] {shape(it, 1), sight(it, 0, 0), sight(it, 0, 1), sight(it, 0, 2), sight(it, 0, 3),
                form(it, 0), form(it, 1), form(it, 2), kin(it, 0), kin(it, 1), self(it), stands(it, 0, 0),
                through(it, 0, 0, 1, 9), reach(it, 0, 0)}) {
                told.add((long) each);
            }
        }
        for (int each : new int[] {fits(0), fits(1), look(0), look(1), view(0), view(9), sees(0, 2), watchers(0),
            watchers(1), watchers(2), echoes(1, NONE, NONE, NONE, 0), echoes(1, NONE, NONE, NONE, 1)}) {
            told.add((long) each);
        }
        told.add(fog(0, 2, 4, 0));
        told.add(fog(0, 2, 4, 1));
        told.add((long) meet(0, 0, 0, 1, 0, 2));
        long h = 17;
        for (long each : told) h = 31 * h + each;
        return h;
    }
}
