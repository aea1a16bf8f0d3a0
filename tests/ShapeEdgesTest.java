/** Promises 6 to 11: SHAPES turned, mirrored, moved up, seen from a side, and which are ONE: each sentence at its edges. */
public final class ShapeEdgesTest {
    private static final int NONE = -1, BAD = -2;
    private static final int[] FAR = {Integer.MIN_VALUE, -70000, 70000, Integer.MAX_VALUE};
    private static final int[] ROW_WEIGHTS = {4096, 256, 16, 1};
    private static final int[] COLUMN_BITS = {8, 4, 2, 1};
    private static final int[] LINES = {125, 25, 5, 1};
    private static final String EIGHT = "8000;c000;88c0;ffff;9009;8421;f99f;0001";
    private static final Due due = new Due();

    public static void main(String[] args) {
        shapeNumbers();
        turned();
        mirrored();
        told();
        movedUp();
        made();
        allRowsMade();
        sightNumbers();
        sightOfOneCell();
        sightOfFirstCell();
        whole();
        outline();
        allShapes();
        formNumbers();
        one();
        kin();
        mirrors();
        kinNumbers();
        self();
        selfNumbers();
        due.end();
    }

    private static void is(String call, long got, long want) {
        due.is(call, got, want);
    }

    private static int number(int row, int column) {
        return ROW_WEIGHTS[row] * COLUMN_BITS[column];
    }

    private static String figures(int rows) {
        return Integer.toHexString(0x10000 + rows).substring(1);
    }

    private static OnlySideways shapes(String text) {
        return Due.with(text, "");
    }

    private static void shapeNumbers() {
        due.says("A SHAPE TURNED t times, as a number. BAD.");
        OnlySideways x = shapes(EIGHT);
        is("the first", x.shape(0, 0), 0x8000);
        is("the last", x.shape(7, 0), 1);
        is("shape 8", x.shape(8, 0), BAD);
        is("shape -1", x.shape(-1, 0), BAD);
        is("t 3", x.shape(7, 3), 0x1000);
        is("t 4", x.shape(7, 4), BAD);
        is("t -1", x.shape(7, -1), BAD);
        for (int far : FAR) {
            is("shape " + far, x.shape(far, 0), BAD);
            is("t " + far, x.shape(0, far), BAD);
        }
        is("none at all", new OnlySideways().shape(0, 0), BAD);
    }

    private static void turned() {
        due.says("A SHAPE, TURNED t times (0 to 3): once more a quarter to the right: the cell in row r, column c comes to row c, column 3 less r.");
        for (int row = 0; row < 4; row++) {
            for (int column = 0; column < 4; column++) {
                OnlySideways x = shapes(figures(number(row, column)));
                is("t 0 of " + row + ", " + column, x.shape(0, 0), number(row, column));
                is("t 1 of " + row + ", " + column, x.shape(0, 1), number(column, 3 - row));
                is("t 2 of " + row + ", " + column, x.shape(0, 2), number(3 - row, 3 - column));
                is("t 3 of " + row + ", " + column, x.shape(0, 3), number(3 - column, row));
                is("made of " + row + ", " + column, x.made(number(row, column), 0), number(column, 3 - row));
            }
        }
        for (int t = 0; t < 4; t++) {
            is("all cells, turned " + t, shapes("ffff").shape(0, t), 65535);
        }
    }

    private static void mirrored() {
        due.says("MIRRORED: column c becomes 3 less c.");
        OnlySideways x = new OnlySideways();
        for (int row = 0; row < 4; row++) {
            for (int column = 0; column < 4; column++) {
                is("of " + row + ", " + column, x.made(number(row, column), 1), number(row, 3 - column));
            }
        }
        is("all cells", x.made(65535, 1), 65535);
        is("a column", x.made(0x8888, 1), 0x1111);
        is("a row", x.made(0x000f, 1), 0x000f);
    }

    private static void told() {
        due.says("TOLD as a number: 4096 times the first row's bits, 256, 16 and 1 times those of the others.");
        is("ffff", shapes("ffff").shape(0, 0), 65535);
        is("0001", shapes("0001").shape(0, 0), 1);
        is("8000", shapes("8000").shape(0, 0), 32768);
        is("1234", shapes("1234").shape(0, 0), 4096 + 2 * 256 + 3 * 16 + 4);
        is("fedc", shapes("fedc").shape(0, 0), 15 * 4096 + 14 * 256 + 13 * 16 + 12);
    }

    private static void movedUp() {
        due.says("MOVED UP it is, if it is shifted up and to the left till row 0 and column 0 have a cell.");
        OnlySideways x = new OnlySideways();
        for (int row = 0; row < 4; row++) {
            for (int column = 0; column < 4; column++) {
                is("a cell at " + row + ", " + column, x.made(number(row, column), 2), 0x8000);
            }
        }
        is("all cells", x.made(65535, 2), 65535);
        is("three rows down", x.made(0x000f, 2), 0xf000);
        is("three columns aside", x.made(0x1111, 2), 0x8888);
        is("not a column too far", x.made(0x0123, 2), 0x48c0);
        is("row 0 and column 0 by two cells", x.made(0x1008, 2), 0x1008);
        is("column 0 by a lower row", x.made(0x0048, 2), 0x4800);
        is("row 0 alone is not enough", x.made(0x6000, 2), 0xc000);
        is("column 0 alone is not enough", x.made(0x0880, 2), 0x8800);
        is("no cell comes into another row", x.made(0x3333, 2), 0xcccc);
    }

    private static void made() {
        due.says("Any four rows (1 to 65535) TURNED once (what = 0), MIRRORED (1), MOVED UP (2), as a number. BAD.");
        OnlySideways x = new OnlySideways();
        for (int what = 0; what < 3; what++) {
            is("rows 0", x.made(0, what), BAD);
            is("rows -1", x.made(-1, what), BAD);
            is("rows 65536", x.made(65536, what), BAD);
            for (int far : FAR) {
                is("rows " + far, x.made(far, what), BAD);
            }
        }
        is("rows 1, turned", x.made(1, 0), 8);
        is("rows 1, mirrored", x.made(1, 1), 8);
        is("rows 1, moved up", x.made(1, 2), 0x8000);
        is("rows 65535, turned", x.made(65535, 0), 65535);
        is("rows 65535, mirrored", x.made(65535, 1), 65535);
        is("rows 65535, moved up", x.made(65535, 2), 65535);
        is("what -1", x.made(1, -1), BAD);
        is("what 3", x.made(1, 3), BAD);
        for (int far : FAR) {
            is("what " + far, x.made(1, far), BAD);
        }
        is("as well with SHAPES", shapes(EIGHT).made(1, 0), 8);
        is("as well with a FAULT", shapes("x").made(1, 0), 8);
    }

    private static void allRowsMade() {
        due.says("Any four rows (1 to 65535)");
        OnlySideways x = new OnlySideways();
        for (int rows = 1; rows < 65536; rows++) {
            if (rows % 50 == 0) {
                x = new OnlySideways();
            }
            int turned = rows;
            for (int t = 0; t < 4; t++) {
                turned = x.made(turned, 0);
            }
            is("four turns of " + rows, turned, rows);
            is("two mirrors of " + rows, x.made(x.made(rows, 1), 1), rows);
            int up = x.made(rows, 2);
            boolean atEdges = (up & 0xf000) != 0 && (up & 0x8888) != 0;
            due.holds(rows + " moved up", atEdges && Integer.bitCount(up) == Integer.bitCount(rows));
        }
    }

    private static void sightNumbers() {
        due.says("SIGHT. BAD.");
        OnlySideways x = shapes(EIGHT);
        is("all first", x.sight(0, 0, 0), 125);
        is("all last", x.sight(7, 3, 3), 4 * 125);
        is("shape 8", x.sight(8, 0, 0), BAD);
        is("shape -1", x.sight(-1, 0, 0), BAD);
        is("t 4", x.sight(0, 4, 0), BAD);
        is("t -1", x.sight(0, -1, 0), BAD);
        is("side 4", x.sight(0, 0, 4), BAD);
        is("side -1", x.sight(0, 0, -1), BAD);
        is("side -1 of a later one", x.sight(1, 1, -1), BAD);
        for (int far : FAR) {
            is("shape " + far, x.sight(far, 0, 0), BAD);
            is("t " + far, x.sight(0, far, 0), BAD);
            is("side " + far, x.sight(0, 0, far), BAD);
        }
        is("none at all", new OnlySideways().sight(0, 0, 0), BAD);
    }

    private static void sightOfOneCell() {
        due.says("from a side (0 above, 1 right, 2 below, 3 left): for each of four lines (columns from the left on for sides 0 and 2; rows from above on for 1 and 3)");
        for (int row = 0; row < 4; row++) {
            for (int column = 0; column < 4; column++) {
                OnlySideways x = shapes(figures(number(row, column)));
                String at = " of " + row + ", " + column;
                is("above" + at, x.sight(0, 0, 0), LINES[column] * (row + 1));
                is("right" + at, x.sight(0, 0, 1), LINES[row] * (4 - column));
                is("below" + at, x.sight(0, 0, 2), LINES[column] * (4 - row));
                is("left" + at, x.sight(0, 0, 3), LINES[row] * (column + 1));
                is("turned, above" + at, x.sight(0, 1, 0), LINES[3 - row] * (column + 1));
                is("turned twice, above" + at, x.sight(0, 2, 0), LINES[3 - column] * (4 - row));
                is("turned thrice, above" + at, x.sight(0, 3, 0), LINES[row] * (4 - column));
            }
        }
    }

    private static void sightOfFirstCell() {
        due.says("how many cells off the first cell is (1 at the edge, to 4; 0: there is none): as 125, 25, 5 and 1 times these.");
        OnlySideways x = shapes("f000;000f;8888;1111;ffff;1000;8008;4304");
        int[][] want = {{156, 125, 624, 125}, {624, 1, 156, 1}, {125, 624, 125, 156}, {1, 156, 1, 624},
            {156, 156, 156, 156}, {1, 125, 4, 500}, {125, 504, 125, 126}, {37, 403, 43, 327}};
        for (int i = 0; i < 8; i++) {
            for (int side = 0; side < 4; side++) {
                is("sight(" + i + ", 0, " + side + ")", x.sight(i, 0, side), want[i][side]);
            }
        }
    }

    private static void wholeIs(String rows, int want) {
        is("WHOLE of " + rows, shapes(rows).form(0, 0), want);
        is("count(6) of " + rows, shapes(rows).count(6), want);
    }

    private static void whole() {
        due.says("WHOLE: its cells hang together by their sides.");
        for (int i = 0; i < 16; i++) {
            wholeIs(figures(1 << i), 1);
        }
        wholeIs("ffff", 1);
        wholeIs("c000", 1);
        wholeIs("0011", 1);
        wholeIs("8400", 0);
        wholeIs("4800", 0);
        wholeIs("0012", 0);
        wholeIs("0021", 0);
        wholeIs("a000", 0);
        wholeIs("8080", 0);
        wholeIs("8001", 0);
        wholeIs("1800", 0);
        wholeIs("0018", 0);
        wholeIs("8000", 1);
        wholeIs("f99f", 1);
        wholeIs("f1f8", 1);
        wholeIs("f8f1", 1);
        wholeIs("9f9f", 1);
        wholeIs("f0f0", 0);
        wholeIs("f00f", 0);
        wholeIs("b5ad", 0);
        wholeIs("ad5b", 0);
        wholeIs("bd5d", 0);
        wholeIs("dd57", 1);
        wholeIs("a5a5", 0);
        wholeIs("f999", 1);
        wholeIs("999f", 1);
        wholeIs("00c8", 1);
        wholeIs("0031", 1);
        wholeIs("00c4", 1);
    }

    private static void outlineIs(String rows, int want) {
        is("OUTLINE of " + rows, shapes(rows).form(0, 1), want);
    }

    private static void outline() {
        due.says("OUTLINE: how many sides of cells are not between two cells.");
        for (int i = 0; i < 16; i++) {
            outlineIs(figures(1 << i), 4);
        }
        outlineIs("c000", 6);
        outlineIs("0003", 6);
        outlineIs("8800", 6);
        outlineIs("0011", 6);
        outlineIs("1800", 8);
        outlineIs("8400", 8);
        outlineIs("ffff", 16);
        outlineIs("f99f", 24);
        outlineIs("a5a5", 32);
        outlineIs("5a5a", 32);
        outlineIs("0660", 8);
        outlineIs("4e40", 12);
    }

    /** All 65535, eight to an object, against cells that are looked at one by one. */
    private static void allShapes() {
        due.says("OUTLINE: how many sides of cells are not between two cells.");
        for (int first = 1; first < 65536; first += 8) {
            StringBuilder text = new StringBuilder();
            int many = Math.min(8, 65536 - first);
            for (int i = 0; i < many; i++) {
                text.append(i == 0 ? "" : ";").append(figures(first + i));
            }
            OnlySideways x = shapes(text.toString());
            int whole = 0;
            int cells = 0;
            for (int i = 0; i < many; i++) {
                int rows = first + i;
                int group = groupOf(rows, Integer.numberOfTrailingZeros(rows));
                is("WHOLE of " + figures(rows), x.form(i, 0), group == rows ? 1 : 0);
                is("OUTLINE of " + figures(rows), x.form(i, 1), sidesOf(rows));
                is("cells of " + figures(rows), x.form(i, 2), Integer.bitCount(rows));
                whole += group == rows ? 1 : 0;
                cells += Integer.bitCount(rows);
            }
            is("all cells from " + figures(first) + " on", x.count(5), cells);
            is("all WHOLE from " + figures(first) + " on", x.count(6), whole);
        }
    }

    private static boolean hasCell(int rows, int row, int column) {
        return row >= 0 && row < 4 && column >= 0 && column < 4 && (rows & number(row, column)) != 0;
    }

    private static int sidesOf(int rows) {
        int sides = 0;
        for (int row = 0; row < 4; row++) {
            for (int column = 0; column < 4; column++) {
                if (hasCell(rows, row, column)) {
                    sides += hasCell(rows, row - 1, column) ? 0 : 1;
                    sides += hasCell(rows, row + 1, column) ? 0 : 1;
                    sides += hasCell(rows, row, column - 1) ? 0 : 1;
                    sides += hasCell(rows, row, column + 1) ? 0 : 1;
                }
            }
        }
        return sides;
    }

    /** The cells that hang together with the one of this bit. */
    private static int groupOf(int rows, int bit) {
        int group = 1 << bit;
        for (int before = 0; before != group;) {
            before = group;
            for (int row = 0; row < 4; row++) {
                for (int column = 0; column < 4; column++) {
                    boolean beside = hasCell(group, row - 1, column) || hasCell(group, row + 1, column)
                        || hasCell(group, row, column - 1) || hasCell(group, row, column + 1);
                    group |= beside ? rows & number(row, column) : 0;
                }
            }
        }
        return group;
    }

    private static void formNumbers() {
        due.says("WHOLE (what = 0; 1, 0), OUTLINE (1), how many cells (2). BAD.");
        OnlySideways x = shapes(EIGHT);
        int[] cells = {1, 2, 4, 16, 4, 4, 12, 1};
        for (int i = 0; i < 8; i++) {
            is("cells of " + i, x.form(i, 2), cells[i]);
        }
        is("the first, what 0", x.form(0, 0), 1);
        is("not WHOLE", x.form(4, 0), 0);
        is("the last, what 1", x.form(7, 1), 4);
        is("what -1", x.form(0, -1), BAD);
        is("what 3", x.form(0, 3), BAD);
        is("shape -1", x.form(-1, 0), BAD);
        is("shape 8", x.form(8, 0), BAD);
        for (int far : FAR) {
            is("what " + far, x.form(0, far), BAD);
            is("shape " + far, x.form(far, 0), BAD);
        }
        for (int what = 0; what < 3; what++) {
            is("none at all", new OnlySideways().form(0, what), BAD);
        }
    }

    private static void one() {
        due.says("ONE: two that are alike, MOVED UP, by some turns.");
        is("the same", shapes("88c0;88c0").kin(0, 0), 3);
        is("shifted", shapes("88c0;0113").kin(0, 0), 1);
        is("shifted down and aside", shapes("88c0;0223").kin(0, 0), 3);
        is("turned once", shapes("88c0;e800").kin(0, 0), 3);
        is("turned twice", shapes("88c0;c440").kin(0, 0), 3);
        is("turned thrice", shapes("88c0;2e00").kin(0, 0), 3);
        is("turned once and shifted", shapes("88c0;0074").kin(0, 0), 3);
        is("mirrored", shapes("88c0;44c0").kin(0, 0), 1);
        is("a cell more", shapes("88c0;88e0").kin(0, 0), 1);
        is("a cell less", shapes("88c0;8880").kin(0, 0), 1);
        is("as many cells, farther apart", shapes("a000;9000").kin(0, 0), 1);
        is("far apart, turned", shapes("9000;0101").kin(0, 0), 1);
        is("far apart, turned by three rows", shapes("9000;1001").kin(0, 0), 3);
    }

    private static void kin() {
        due.says("KIN of a SHAPE: those that are ONE with it, as bits");
        OnlySideways alike = shapes("8000;0800;0080;0008;4000;2000;1000;0001");
        OnlySideways unlike = shapes("8000;c000;e000;f000;cc00;ccc0;cccc;ffff");
        for (int i = 0; i < 8; i++) {
            is("all eight by " + i, alike.kin(i, 0), 255);
            is("itself alone by " + i, unlike.kin(i, 0), 1 << i);
        }
        OnlySideways ends = shapes("88c0;8000;c000;e000;f000;cc00;ffff;0223");
        is("the first and the last", ends.kin(0, 0), 0b10000001);
        is("the last and the first", ends.kin(7, 0), 0b10000001);
        is("one SHAPE", shapes("9009").kin(0, 0), 1);
    }

    private static void mirrors() {
        due.says("MIRRORS: those that are ONE with it MIRRORED.");
        OnlySideways x = shapes("88c0;0223;44c0;0e20;8c40;4c80;cc00;88c0");
        is("of an L", x.kin(0, 1), 0b00001100);
        is("of the same, shifted", x.kin(1, 1), 0b00001100);
        is("of its mirror", x.kin(2, 1), 0b10000011);
        is("of an S", x.kin(4, 1), 0b00100000);
        is("of a Z", x.kin(5, 1), 0b00010000);
        is("of a square", x.kin(6, 1), 0b01000000);
        is("there is none", shapes("88c0").kin(0, 1), 0);
        is("the last alone", shapes("88c0;8000;8000;8000;8000;8000;8000;44c0").kin(0, 1), 128);
        is("all eight", shapes("8000;0800;0080;0008;4000;2000;1000;0001").kin(3, 1), 255);
    }

    private static void kinNumbers() {
        due.says("KIN (what = 0), MIRRORS (1), as bits. BAD.");
        OnlySideways x = shapes(EIGHT);
        is("what -1", x.kin(0, -1), BAD);
        is("what 2", x.kin(0, 2), BAD);
        for (int what = 0; what < 2; what++) {
            is("shape -1", x.kin(-1, what), BAD);
            is("shape 8", x.kin(8, what), BAD);
            is("shape 7", x.kin(7, what), 0b10000001);
            is("none at all", new OnlySideways().kin(0, what), BAD);
        }
        for (int far : FAR) {
            is("what " + far, x.kin(0, far), BAD);
            is("shape " + far, x.kin(far, 0), BAD);
            is("shape " + far, x.kin(far, 1), BAD);
        }
    }

    private static void selfIs(String rows, int want) {
        is("SELF of " + rows, shapes(rows).self(0), want);
    }

    private static void self() {
        due.says("SELF: the least t from 1 to 4 such that TURNED so it is alike, MOVED UP.");
        for (int i = 0; i < 16; i++) {
            selfIs(figures(1 << i), 1);
        }
        selfIs("ffff", 1);
        selfIs("cc00", 1);
        selfIs("0033", 1);
        selfIs("4e40", 1);
        selfIs("9009", 1);
        selfIs("0a0a", 1);
        selfIs("c000", 2);
        selfIs("0011", 2);
        selfIs("f000", 2);
        selfIs("8c40", 2);
        selfIs("8421", 2);
        selfIs("f00f", 2);
        selfIs("88c0", 4);
        selfIs("e400", 4);
        selfIs("fffe", 4);
        selfIs("c800", 4);
    }

    private static void selfNumbers() {
        due.says("SELF. BAD.");
        OnlySideways x = shapes(EIGHT);
        is("the first", x.self(0), 1);
        is("the last", x.self(7), 1);
        is("shape -1", x.self(-1), BAD);
        is("shape 8", x.self(8), BAD);
        for (int far : FAR) {
            is("shape " + far, x.self(far), BAD);
        }
        is("none at all", new OnlySideways().self(0), BAD);
        is("NONE is no answer of it", shapes("88c0").self(NONE), BAD);
    }
}
