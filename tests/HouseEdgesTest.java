import java.util.ArrayDeque;
import java.util.Arrays;

/** Promises 12 to 15: where a SHAPE can stand, come through, reach and meet: each sentence at its edges. */
public final class HouseEdgesTest {
    private static final int NONE = -1, BAD = -2, NOT = -3;
    private static final int[] FAR = {Integer.MIN_VALUE, -70000, 70000, Integer.MAX_VALUE};
    private static final String WIDE = Due.house(8, 8);
    // 0660 is alike in all turns: two passages, two wide, hang together at the right
    private static final String BEND = "########;#.......;#.......;######..;#.......;#.......;########;########";
    private static final Due due = new Due();

    public static void main(String[] args) {
        cells();
        stands();
        standsEmptyAtItsPlace();
        standsNumbers();
        shifts();
        turns();
        behindEachStep();
        through();
        throughNumbers();
        throughRefusals();
        reach();
        reachNumbers();
        meet();
        meetNumbers();
        allWays("8000;c840;0040", "....#...;.##...#.;...#....;#...##.#;..#.....;....#.#.;.#......;...#..#.");
        allWays("4600;88c0;f000", ".....;.....;..#..;.....;.....;.....");
        due.end();
    }

    private static void is(String call, long got, long want) {
        due.is(call, got, want);
    }

    private static void cells() {
        due.says("CELLS are 8 times the row and the column (0 to 63); a CELL is FREE, if it is told so.");
        for (int cell = 0; cell < 64; cell++) {
            StringBuilder house = new StringBuilder(WIDE.replace('.', '#'));
            house.setCharAt(9 * (cell / 8) + cell % 8, '.');
            OnlySideways x = Due.with("8000", house.toString());
            is("one FREE CELL", x.count(1), 1);
            is("view(" + cell + ")", x.view(cell), 1);
            is("stands at " + cell, x.stands(0, 0, cell), 1);
            is("stands behind it", x.stands(0, 0, (cell + 1) % 64), 0);
            is("stands ahead of it", x.stands(0, 0, (cell + 63) % 64), 0);
        }
        OnlySideways x = Due.with("8000", WIDE);
        is("-1", x.stands(0, 0, -1), BAD);
        is("64", x.stands(0, 0, 64), BAD);
        is("-1", x.view(-1), BAD);
        is("64", x.view(64), BAD);
    }

    private static void stands() {
        due.says("it can, if all its cells are on FREE CELLS.");
        OnlySideways x = Due.with("ffff;f000;8888;8001;c000;8800", WIDE);
        for (int cell = 0; cell < 64; cell++) {
            int row = cell / 8;
            int column = cell % 8;
            is("all cells at " + cell, x.stands(0, 0, cell), row <= 4 && column <= 4 ? 1 : 0);
            is("a row at " + cell, x.stands(1, 0, cell), column <= 4 ? 1 : 0);
            is("a column at " + cell, x.stands(2, 0, cell), row <= 4 ? 1 : 0);
            is("two corners at " + cell, x.stands(3, 0, cell), row <= 4 && column <= 4 ? 1 : 0);
            is("two beside at " + cell, x.stands(4, 0, cell), column <= 6 ? 1 : 0);
            is("two below at " + cell, x.stands(5, 0, cell), row <= 6 ? 1 : 0);
        }
        OnlySideways wall = Due.with("ccc0;eee0;e0e0;eae0", "....;..#.;....");
        is("left of a wall", wall.stands(0, 0, 0), 1);
        is("one cell on a wall", wall.stands(1, 0, 0), 0);
        is("astride a wall", wall.stands(2, 0, 1), 1);
        is("a hole round a wall", wall.stands(3, 0, 1), 1);
        is("the hole beside the wall", wall.stands(3, 0, 0), 0);
        OnlySideways none = Due.with("8000", "#");
        is("no FREE CELL", none.stands(0, 0, 0), 0);
        is("no house", Due.with("8000", "").stands(0, 0, 0), 0);
    }

    private static void standsEmptyAtItsPlace() {
        due.says("A SHAPE stands at a CELL (there its row 0, column 0 is, be it empty or not), TURNED t times");
        OnlySideways x = Due.with("0001;4000;0800", WIDE);
        for (int cell = 0; cell < 64; cell++) {
            int row = cell / 8;
            int column = cell % 8;
            is("the far corner at " + cell, x.stands(0, 0, cell), row <= 4 && column <= 4 ? 1 : 0);
            is("turned once at " + cell, x.stands(0, 1, cell), row <= 4 ? 1 : 0);
            is("turned twice at " + cell, x.stands(0, 2, cell), 1);
            is("turned thrice at " + cell, x.stands(0, 3, cell), column <= 4 ? 1 : 0);
            is("column 1 at " + cell, x.stands(1, 0, cell), column <= 6 ? 1 : 0);
            is("row 1 at " + cell, x.stands(2, 0, cell), row <= 6 ? 1 : 0);
        }
        OnlySideways wall = Due.with("4000", "#.");
        is("its place may be a wall", wall.stands(0, 0, 0), 1);
        is("not the place counts", wall.stands(0, 0, 1), 0);
        OnlySideways outside = Due.with("0001", ".");
        for (int cell = 0; cell < 64; cell++) {
            is("no place above or left of row 0, column 0", outside.stands(0, 0, cell), 0);
        }
        is("turned, it can", outside.stands(0, 2, 0), 1);
    }

    private static void standsNumbers() {
        due.says("Whether a SHAPE can stand at a CELL: 1, 0. BAD.");
        OnlySideways x = Due.with("c000;0001", WIDE);
        is("the last of all", x.stands(1, 2, 63), 1);
        is("the last turn", x.stands(1, 3, 60), 1);
        is("shape -1", x.stands(-1, 0, 0), BAD);
        is("shape 2", x.stands(2, 0, 0), BAD);
        is("t -1", x.stands(0, -1, 0), BAD);
        is("t 4", x.stands(0, 4, 0), BAD);
        is("cell -1", x.stands(0, 0, -1), BAD);
        is("cell 64", x.stands(0, 0, 64), BAD);
        for (int far : FAR) {
            is("shape " + far, x.stands(far, 0, 0), BAD);
            is("t " + far, x.stands(0, far, 0), BAD);
            is("cell " + far, x.stands(0, 0, far), BAD);
        }
        is("a CELL outside of a small house is one", Due.with("8000", ".").stands(0, 0, 63), 0);
    }

    private static void shifts() {
        due.says("A step is a shift by one (up, right, down, left: row 0 to 7, column 0 to 7)");
        OnlySideways x = Due.with("8000", WIDE);
        is("up", x.through(0, 0, 27, 0, 19), 1);
        is("right", x.through(0, 0, 27, 0, 28), 1);
        is("down", x.through(0, 0, 27, 0, 35), 1);
        is("left", x.through(0, 0, 27, 0, 26), 1);
        is("askew is two", x.through(0, 0, 27, 0, 36), 2);
        is("from row 0 not to row 7", x.through(0, 0, 0, 0, 56), 7);
        is("from row 7 not to row 0", x.through(0, 0, 63, 0, 7), 7);
        is("from column 7 not to column 0", x.through(0, 0, 7, 0, 0), 7);
        is("from column 7 not into the next row", x.through(0, 0, 7, 0, 8), 8);
        is("from column 0 not into the row above", x.through(0, 0, 8, 0, 7), 8);
        is("corner to corner", x.through(0, 0, 0, 0, 63), 14);
        is("and back", x.through(0, 0, 63, 0, 0), 14);
        OnlySideways rows = Due.with("8000", "#......#;.######.");
        is("no way from column 7 to the next row's column 0", rows.through(0, 0, 15, 0, 8), NONE);
        is("nor from column 0 to the row above", Due.with("8000", "#######.;.#######").through(0, 0, 8, 0, 7), NONE);
        is("nor from it", Due.with("8000", "#######.;.#######").through(0, 0, 7, 0, 8), NONE);
    }

    private static void turns() {
        due.says("or a quarter turn (right, left) in its place");
        OnlySideways x = Due.with("ffff;f000", WIDE);
        int[][] want = {{0, 1, 2, 1}, {1, 0, 1, 2}, {2, 1, 0, 1}, {1, 2, 1, 0}};
        for (int t = 0; t < 4; t++) {
            for (int u = 0; u < 4; u++) {
                is("from turn " + t + " to " + u, x.through(0, t, 0, u, 0), want[t][u]);
                is("a row from turn " + t + " to " + u, x.through(1, t, 9, u, 9), want[t][u]);
                is("with a shift", x.through(0, t, 0, u, 1), want[t][u] + 1);
            }
        }
    }

    private static void behindEachStep() {
        due.says("behind each it must be able to stand.");
        // two cells in the middle of the square: up and down, or beside one another
        OnlySideways x = Due.with("0440", "####;#.##;#.##;####");
        is("no room to turn", x.through(0, 0, 0, 2, 0), NOT);
        // f000 along row 0, and turned twice along row 3, with walls where it would stand between
        OnlySideways far = Due.with("f000", "....;.##.;.##.;....");
        is("by the right", far.through(0, 0, 0, 2, 0), 2);
        OnlySideways right = Due.with("f000", "....;###.;###.;....");
        is("by the right alone", right.through(0, 0, 0, 2, 0), 2);
        is("half of it", right.through(0, 0, 0, 1, 0), 1);
        OnlySideways left = Due.with("f000", "....;.###;.###;....");
        is("by the left alone", left.through(0, 0, 0, 2, 0), 2);
        OnlySideways none = Due.with("f000", "....;####;####;....");
        is("it stands at both", none.stands(0, 0, 0) + none.stands(0, 2, 0), 2);
        is("but there is no way", none.through(0, 0, 0, 2, 0), NONE);
        is("a wall between", Due.with("8000", ".#.").through(0, 0, 0, 0, 2), NONE);
        is("too narrow for two", Due.with("cc00", "..#..;.....;..#..").through(0, 0, 0, 0, 3), NONE);
        is("wide enough", Due.with("cc00", ".....;.....;..#..").through(0, 0, 0, 0, 3), 3);
    }

    private static void through() {
        due.says("THROUGH: the fewest steps from one such stand to another one; NONE.");
        OnlySideways x = Due.with("0660", BEND);
        is("in its place", x.through(0, 0, 0, 0, 0), 0);
        is("a long way", x.through(0, 0, 0, 0, 24), 5 + 3 + 5);
        is("and back", x.through(0, 0, 24, 0, 0), 13);
        is("turned once", x.through(0, 0, 0, 3, 24), 14);
        is("turned twice", x.through(0, 1, 0, 3, 24), 15);
        is("a part of it", x.through(0, 0, 5, 0, 29), 3);
        // found by a search for long ways; the Oracle's queue counts as many
        OnlySideways long68 = Due.with("0100",
            "....##..;.##.##.#;###.##..;..#.#.#.;.##.###.;.####.#.;#.#...#.;#...###.");
        is("the longest way known", long68.through(0, 2, 47, 1, 1), 68);
        is("and back", long68.through(0, 1, 1, 2, 47), 68);
        OnlySideways small = Due.with("8000", "...;##.;...");
        is("round a wall", small.through(0, 0, 0, 0, 16), 6);
        is("by a turn across a wall", Due.with("8000", ".##.").through(0, 0, 0, 1, 0), 1);
        OnlySideways two = Due.with("8000", "...;.#.;...");
        is("the shorter of two ways", two.through(0, 0, 0, 0, 2), 2);
        is("two ways alike", two.through(0, 0, 0, 0, 18), 4);
        OnlySideways cut = Due.with("0660", BEND.replace("######..", "######.#"));
        is("the way is cut", cut.through(0, 0, 0, 0, 24), NONE);
        is("one stand alone", Due.with("8000", ".").through(0, 0, 0, 0, 0), 0);
        OnlySideways turn = Due.with("0001", WIDE);
        is("a turn in place of many shifts", turn.through(0, 0, 0, 2, 27), 8);
        is("to a place that only a turn can take", turn.through(0, 0, 36, 2, 63), 8);
    }

    private static void throughNumbers() {
        due.says("THROUGH; NONE. BAD; NOT: it cannot stand there, or here.");
        OnlySideways x = Due.with("8000;0001", WIDE);
        is("the last of all", x.through(1, 2, 63, 2, 63), 0);
        is("the last turns", x.through(1, 3, 60, 3, 60), 0);
        is("shape -1", x.through(-1, 0, 0, 0, 0), BAD);
        is("shape 2", x.through(2, 0, 0, 0, 0), BAD);
        is("t -1", x.through(0, -1, 0, 0, 0), BAD);
        is("t 4", x.through(0, 4, 0, 0, 0), BAD);
        is("from -1", x.through(0, 0, -1, 0, 0), BAD);
        is("from 64", x.through(0, 0, 64, 0, 0), BAD);
        is("u -1", x.through(0, 0, 0, -1, 0), BAD);
        is("u 4", x.through(0, 0, 0, 4, 0), BAD);
        is("to -1", x.through(0, 0, 0, 0, -1), BAD);
        is("to 64", x.through(0, 0, 0, 0, 64), BAD);
        for (int far : FAR) {
            is("shape " + far, x.through(far, 0, 0, 0, 0), BAD);
            is("t " + far, x.through(0, far, 0, 0, 0), BAD);
            is("from " + far, x.through(0, 0, far, 0, 0), BAD);
            is("u " + far, x.through(0, 0, 0, far, 0), BAD);
            is("to " + far, x.through(0, 0, 0, 0, far), BAD);
        }
    }

    private static void throughRefusals() {
        due.says("THROUGH; NONE. BAD; NOT: it cannot stand there, or here.");
        OnlySideways x = Due.with("8000", ".#.");
        is("not there", x.through(0, 0, 1, 0, 0), NOT);
        is("not here", x.through(0, 0, 0, 0, 1), NOT);
        is("neither", x.through(0, 0, 1, 0, 1), NOT);
        is("not in that turn", x.through(0, 1, 0, 0, 0), NOT);
        is("not in this turn", x.through(0, 0, 0, 1, 0), NOT);
        is("NOT before NONE", x.through(0, 0, 0, 0, 63), NOT);
        is("BAD before NOT: shape", x.through(1, 0, 1, 0, 1), BAD);
        is("BAD before NOT: t", x.through(0, 4, 0, 0, 1), BAD);
        is("BAD before NOT: from", x.through(0, 0, 64, 0, 1), BAD);
        is("BAD before NOT: u", x.through(0, 0, 1, 4, 0), BAD);
        is("BAD before NOT: to", x.through(0, 0, 1, 0, 64), BAD);
        is("BAD before NOT: to", x.through(0, 0, 1, 0, -1), BAD);
        is("no house", Due.with("8000", "").through(0, 0, 0, 0, 0), NOT);
    }

    private static void reach() {
        due.says("REACH: at how many CELLS it can come to stand (in whatever turn) from one.");
        is("its own alone", Due.with("8000", ".").reach(0, 0, 0), 1);
        is("all 64", Due.with("8000", WIDE).reach(0, 0, 63), 64);
        is("the far corner, by turns", Due.with("0001", WIDE).reach(0, 0, 0), 64);
        is("all cells", Due.with("ffff", WIDE).reach(0, 0, 36), 25);
        is("a CELL counts once, in whatever turn", Due.with("ffff", Due.house(4, 4)).reach(0, 0, 0), 1);
        is("a row", Due.with("f000", WIDE).reach(0, 0, 0), 40 + 40 - 25);
        is("round the bend", Due.with("0660", BEND).reach(0, 0, 0), 6 + 2 + 6);
        OnlySideways two = Due.with("8000", "...#..;...#..");
        is("on the one side of a wall", two.reach(0, 0, 0), 6);
        is("on the other", two.reach(0, 0, 4), 4);
        is("no wrap to the next row", Due.with("8000", "#######.;.#######").reach(0, 0, 7), 1);
        is("nor to the row above", Due.with("8000", "#######.;.#######").reach(0, 0, 8), 1);
        is("nor from row 0 to row 7", Due.with("8000", ".;#;#;#;#;#;#;.").reach(0, 0, 0), 1);
    }

    private static void reachNumbers() {
        due.says("REACH. BAD; NOT.");
        OnlySideways x = Due.with("8000;0001", WIDE);
        is("the last of all", x.reach(1, 2, 63), 64);
        is("shape -1", x.reach(-1, 0, 0), BAD);
        is("shape 2", x.reach(2, 0, 0), BAD);
        is("t -1", x.reach(0, -1, 0), BAD);
        is("t 4", x.reach(0, 4, 0), BAD);
        is("from -1", x.reach(0, 0, -1), BAD);
        is("from 64", x.reach(0, 0, 64), BAD);
        is("it cannot stand there", x.reach(1, 0, 63), NOT);
        is("nor in this turn", x.reach(0, 1, 63), NOT);
        for (int far : FAR) {
            is("shape " + far, x.reach(far, 0, 0), BAD);
            is("t " + far, x.reach(0, far, 0), BAD);
            is("from " + far, x.reach(0, 0, far), BAD);
        }
        OnlySideways wall = Due.with("8000", "#");
        is("on a wall", wall.reach(0, 0, 0), NOT);
        is("BAD before NOT: shape", wall.reach(1, 0, 0), BAD);
        is("BAD before NOT: t", wall.reach(0, 4, 0), BAD);
        is("BAD before NOT: from", wall.reach(0, 0, 64), BAD);
        is("no house", Due.with("8000", "").reach(0, 0, 0), NOT);
    }

    private static void meet() {
        due.says("MEET: two (SHAPES, stands) can stand at once, no cell being of both: 1, 0.");
        OnlySideways x = Due.with("8000;ffff;f99f;0660;0001", WIDE);
        is("beside", x.meet(0, 0, 0, 0, 0, 1), 1);
        is("at the same CELL", x.meet(0, 0, 0, 0, 0, 0), 0);
        is("two large ones side by side", x.meet(1, 0, 0, 1, 0, 4), 1);
        is("two large ones by one column", x.meet(1, 0, 0, 1, 0, 3), 0);
        is("two large ones by one row", x.meet(1, 0, 0, 1, 0, 24), 0);
        is("two large ones, one below", x.meet(1, 0, 0, 1, 0, 32), 1);
        is("two large ones by one cell", x.meet(1, 0, 0, 1, 0, 27), 0);
        is("corner at corner", x.meet(1, 0, 0, 1, 0, 36), 1);
        is("one inside the other's hole", x.meet(2, 0, 0, 3, 0, 0), 1);
        is("the hole is filled, and a cell more", x.meet(2, 0, 0, 3, 0, 1), 0);
        is("the last cell", x.meet(0, 0, 63, 4, 0, 36), 0);
        is("not the last cell", x.meet(0, 0, 62, 4, 0, 36), 1);
        is("the first cannot stand", x.meet(1, 0, 5, 0, 0, 0), 0);
        is("the second cannot stand", x.meet(0, 0, 0, 1, 0, 5), 0);
        is("neither can stand", x.meet(1, 0, 63, 1, 0, 7), 0);
        is("the first cannot, turned", x.meet(0, 1, 5, 0, 0, 0), 0);
        is("the second cannot, turned", x.meet(0, 0, 0, 0, 1, 5), 0);
        is("turned away", x.meet(0, 0, 0, 0, 1, 0), 1);
        is("no house", Due.with("8000", "").meet(0, 0, 0, 0, 0, 1), 0);
    }

    private static void meetNumbers() {
        due.says("MEET. BAD.");
        OnlySideways x = Due.with("8000;0001", WIDE);
        is("the last of all", x.meet(1, 2, 63, 1, 3, 60), 0);
        is("the last of all", x.meet(1, 3, 60, 1, 2, 62), 1);
        int[] base = {0, 0, 0, 0, 0, 1};
        int[] bounds = {2, 4, 64, 2, 4, 64};
        for (int k = 0; k < 6; k++) {
            is("argument " + k + " of -1", meetWith(x, base, k, -1), BAD);
            is("argument " + k + " of " + bounds[k], meetWith(x, base, k, bounds[k]), BAD);
            for (int far : FAR) {
                is("argument " + k + " of " + far, meetWith(x, base, k, far), BAD);
            }
        }
        OnlySideways wall = Due.with("8000", "#");
        is("BAD, not 0, where the other cannot stand", wall.meet(0, 0, 0, 1, 0, 0), BAD);
        is("BAD, not 0, where the other cannot stand", wall.meet(0, 0, 64, 0, 0, 0), BAD);
    }

    private static int meetWith(OnlySideways x, int[] base, int k, int value) {
        int[] a = base.clone();
        a[k] = value;
        return x.meet(a[0], a[1], a[2], a[3], a[4], a[5]);
    }

    /** Each stand to each stand, against steps that are counted here one by one. */
    private static void allWays(String shapes, String house) {
        due.says("THROUGH: the fewest steps from one such stand to another one; NONE. REACH: at how many CELLS it can come to stand (in whatever turn) from one.");
        for (int shape = 0; shape < 3; shape++) {
            for (int stand = 0; stand < 256; stand++) {
                OnlySideways x = Due.with(shapes, house);
                int[] steps = stepsFrom(shapes, house, shape, stand);
                String from = "(" + shape + ", " + stand / 64 + ", " + stand % 64;
                is("reach" + from + ")", x.reach(shape, stand / 64, stand % 64), reached(steps, stand));
                for (int to = 0; to < 256; to++) {
                    is("through" + from + ", " + to / 64 + ", " + to % 64 + ")",
                        x.through(shape, stand / 64, stand % 64, to / 64, to % 64), steps[to]);
                }
            }
        }
        due.says("MEET: two (SHAPES, stands) can stand at once, no cell being of both: 1, 0.");
        for (int stand = 0; stand < 768; stand += 5) {
            OnlySideways x = Due.with(shapes, house);
            long own = covered(shapes, house, stand / 256, stand % 256);
            for (int other = stand % 3; other < 768; other += 3) {
                long its = covered(shapes, house, other / 256, other % 256);
                int want = own != 0 && its != 0 && (own & its) == 0 ? 1 : 0;
                is("meet of " + stand + " and " + other, x.meet(stand / 256, stand / 64 % 4, stand % 64,
                    other / 256, other / 64 % 4, other % 64), want);
            }
        }
    }

    private static int reached(int[] steps, int stand) {
        if (steps[stand] == NOT) {
            return NOT;
        }
        int cells = 0;
        for (int cell = 0; cell < 64; cell++) {
            boolean some = false;
            for (int t = 0; t < 4; t++) {
                some |= steps[64 * t + cell] >= 0;
            }
            cells += some ? 1 : 0;
        }
        return cells;
    }

    /** For each stand (64 times the turn and the CELL) what through answers. */
    private static int[] stepsFrom(String shapes, String house, int shape, int first) {
        int[] steps = new int[256];
        for (int stand = 0; stand < 256; stand++) {
            steps[stand] = covered(shapes, house, shape, stand) == 0 ? NOT : NONE;
        }
        if (steps[first] == NOT) {
            Arrays.fill(steps, NOT);
            return steps;
        }
        ArrayDeque<Integer> queue = new ArrayDeque<>();
        steps[first] = 0;
        queue.add(first);
        while (!queue.isEmpty()) {
            int now = queue.remove();
            int cell = now % 64;
            int[] nexts = {cell >= 8 ? now - 8 : now, cell % 8 < 7 ? now + 1 : now, cell < 56 ? now + 8 : now,
                cell % 8 > 0 ? now - 1 : now, (now + 64) % 256, (now + 192) % 256};
            for (int next : nexts) {
                if (steps[next] == NONE) {
                    steps[next] = steps[now] + 1;
                    queue.add(next);
                }
            }
        }
        return steps;
    }

    /** The CELLS of a stand as bits; 0 if it cannot stand so. */
    private static long covered(String shapes, String house, int shape, int stand) {
        String[] rows = house.split(";");
        long bits = 0;
        for (int i = 0; i < 16; i++) {
            int figure = Character.digit(shapes.charAt(5 * shape + i / 4), 16);
            if ((figure & 8 >> i % 4) == 0) {
                continue;
            }
            int row = i / 4;
            int column = i % 4;
            for (int t = 0; t < stand / 64; t++) {
                int before = row;
                row = column;
                column = 3 - before;
            }
            row += stand % 64 / 8;
            column += stand % 8;
            if (row >= rows.length || column >= rows[0].length() || rows[row].charAt(column) != '.') {
                return 0;
            }
            bits |= 1L << 8 * row + column;
        }
        return bits;
    }
}
