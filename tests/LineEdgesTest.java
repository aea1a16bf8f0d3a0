import java.math.BigInteger;

/** Promises 20 to 24: who sees what along straight lines, watchers, echoes and fog: each sentence at its edges. */
public final class LineEdgesTest {
    private static final int NONE = -1, BAD = -2;
    private static final long LONG_BAD = Long.MIN_VALUE + 2;
    private static final int[] FAR = {Integer.MIN_VALUE, -70000, 70000, Integer.MAX_VALUE};
    private static final String WIDE = Due.house(8, 8);
    private static final Due due = new Due();

    public static void main(String[] args) {
        view();
        viewToTheNextWall();
        viewNumbers();
        sees();
        seesNumbers();
        watchers();
        watchersOfLikeOnes();
        watchersNumbers();
        echoes();
        echoesNotTold();
        echoesNumbers();
        fog();
        fogByItself();
        fogOverAllPairs();
        fogInLowestTerms();
        fogNumbers();
        due.end();
    }

    private static void is(String call, long got, long want) {
        due.is(call, got, want);
    }

    private static OnlySideways house(String text) {
        return Due.with("", text);
    }

    private static void view() {
        due.says("A watcher at a FREE CELL sees it and all CELLS in the row and the column up to the next wall (not it).");
        is("itself alone", house(".").view(0), 1);
        is("shut in", house("###;#.#;###").view(9), 1);
        is("all round, not askew", house("...;...;...").view(9), 5);
        OnlySideways wide = house(WIDE);
        for (int cell = 0; cell < 64; cell++) {
            is("view(" + cell + ") of all", wide.view(cell), 15);
        }
        is("the last CELL alone", house(WIDE.replace('.', '#').substring(0, 70) + ".").view(63), 1);
        is("no wrap at the right edge", house("#######.;.#######").view(7), 1);
        is("no wrap at the left edge", house("#######.;.#######").view(8), 1);
    }

    private static void viewToTheNextWall() {
        due.says("up to the next wall (not it). VIEW: how many.");
        for (int wall = 0; wall < 8; wall++) {
            StringBuilder row = new StringBuilder("........");
            row.setCharAt(wall, '#');
            OnlySideways across = house(row.toString());
            OnlySideways down = house(String.join(";", row.toString().split("")));
            for (int place = 0; place < 8; place++) {
                int want = place == wall ? BAD : place < wall ? wall : 7 - wall;
                is("view(" + place + ") of " + row, across.view(place), want);
                is("view(" + 8 * place + ") of it as a column", down.view(8 * place), want);
            }
        }
        OnlySideways ring = house("..#..;..#..;##.##;..#..;..#..");
        is("behind the wall it is not seen", ring.view(0), 3);
        is("walls on all sides", ring.view(18), 1);
    }

    private static void viewNumbers() {
        due.says("VIEW. BAD: also a CELL that is not FREE.");
        OnlySideways x = house("..;.#");
        is("the first", x.view(0), 3);
        is("a wall", x.view(9), BAD);
        is("behind the width", x.view(2), BAD);
        is("below the house", x.view(16), BAD);
        is("the last CELL", x.view(63), BAD);
        is("-1", x.view(-1), BAD);
        is("64", x.view(64), BAD);
        for (int far : FAR) {
            is("view(" + far + ")", x.view(far), BAD);
        }
        OnlySideways wide = house(WIDE);
        is("63 of all", wide.view(63), 15);
        is("64 of all", wide.view(64), BAD);
        is("-1 of all", wide.view(-1), BAD);
        is("-64 of all", wide.view(-64), BAD);
        is("128 of all", wide.view(128), BAD);
        is("no house", new OnlySideways().view(0), BAD);
    }

    private static void sees() {
        due.says("SEES: whether one CELL is seen from another.");
        OnlySideways wide = house(WIDE);
        is("itself", wide.sees(0, 0), 1);
        is("itself, the last", wide.sees(63, 63), 1);
        is("the whole row", wide.sees(0, 7), 1);
        is("the whole row, back", wide.sees(7, 0), 1);
        is("the whole column", wide.sees(0, 56), 1);
        is("the whole column, back", wide.sees(56, 0), 1);
        is("askew", wide.sees(0, 9), 0);
        is("corner to corner", wide.sees(0, 63), 0);
        is("no wrap to the next row", wide.sees(7, 8), 0);
        is("no wrap to the row above", wide.sees(8, 7), 0);
        OnlySideways wall = house("..#.;....;#...");
        is("up to the wall", wall.sees(0, 1), 1);
        is("behind it", wall.sees(1, 3), 0);
        is("behind it, back", wall.sees(3, 1), 0);
        is("down to the wall", wall.sees(0, 8), 1);
        is("beside it", wall.sees(10, 18), 1);
        OnlySideways column = house(".;#;.");
        is("behind a wall below", column.sees(0, 16), 0);
        is("behind a wall above", column.sees(16, 0), 0);
    }

    private static void seesNumbers() {
        due.says("SEES: 1, 0. BAD: as VIEW.");
        OnlySideways x = house(".#.");
        is("from a wall", x.sees(1, 0), BAD);
        is("to a wall", x.sees(0, 1), BAD);
        is("from a wall to itself", x.sees(1, 1), BAD);
        is("from outside of the house", x.sees(3, 0), BAD);
        is("to outside of the house", x.sees(0, 8), BAD);
        OnlySideways wide = house(WIDE);
        is("from -1", wide.sees(-1, 0), BAD);
        is("to -1", wide.sees(0, -1), BAD);
        is("from 64", wide.sees(64, 0), BAD);
        is("to 64", wide.sees(0, 64), BAD);
        for (int far : FAR) {
            is("from " + far, wide.sees(far, 0), BAD);
            is("to " + far, wide.sees(0, far), BAD);
        }
        is("no house", new OnlySideways().sees(0, 0), BAD);
    }

    private static void watchersAre(String text, int many, int first, int second) {
        OnlySideways x = house(text);
        is("watchers(0) of " + text, x.watchers(0), many);
        is("watchers(1) of " + text, x.watchers(1), first);
        is("watchers(2) of " + text, x.watchers(2), second);
    }

    private static void watchers() {
        due.says("WATCHERS (0 to 2): the fewest who see all FREE CELLS: how many, the first, the second");
        watchersAre("", 0, NONE, NONE);
        watchersAre("#", 0, NONE, NONE);
        watchersAre(WIDE.replace('.', '#'), 0, NONE, NONE);
        watchersAre(".", 1, 0, NONE);
        watchersAre(WIDE.replace('.', '#').substring(0, 70) + ".", 1, 63, NONE);
        watchersAre("........", 1, 0, NONE);
        watchersAre(".;.;.;.;.;.;.;.", 1, 0, NONE);
        watchersAre("#.#;...;#.#", 1, 9, NONE);
        watchersAre("..;..", 2, 0, 1);
        watchersAre(".#.", 2, 0, 2);
        watchersAre(".######.;########;########;########;########;########;########;########", 2, 0, 7);
        watchersAre("########;########;########;########;########;########;########;.######.", 2, 56, 63);
        watchersAre(".#.#.", NONE, NONE, NONE);
        watchersAre("...;...;...", NONE, NONE, NONE);
        watchersAre(WIDE, NONE, NONE, NONE);
        is("the same house, first the second", house(".#.").watchers(2), 2);
        is("the same house, first the first", house(".#.").watchers(1), 0);
    }

    private static void watchersOfLikeOnes() {
        due.says("(of like ones the least CELLS, the first less than the second); NONE.");
        watchersAre("#...", 1, 1, NONE);
        watchersAre("........;........", 2, 0, 8);
        watchersAre(".;.;#;.;.", 2, 0, 24);
        watchersAre("###;#..;###;.##", 2, 9, 24);
        // 0 with 10, not 2 with 8: the first of all is the least
        watchersAre(".#.;...;.#.", 2, 0, 10);
        watchersAre("#..;...", 2, 1, 8);
    }

    private static void watchersNumbers() {
        due.says("WATCHERS: how many (what = 0), the first (1; NONE), the second (2; NONE); NONE. BAD.");
        for (String text : new String[] {"", ".", "..;..", WIDE}) {
            OnlySideways x = house(text);
            is("what -1", x.watchers(-1), BAD);
            is("what 3", x.watchers(3), BAD);
            for (int far : FAR) {
                is("what " + far, x.watchers(far), BAD);
            }
        }
        OnlySideways x = house("..;..");
        is("two", x.watchers(0), 2);
        x.undo(1);
        x.undo(1);
        x.undo(1);
        is("then one", x.watchers(0), 1);
        is("the first", x.watchers(1), 0);
        is("no second any more", x.watchers(2), NONE);
        x.wipe(1);
        is("then none", x.watchers(0), 0);
        is("no first any more", x.watchers(1), NONE);
    }

    private static int echo(OnlySideways x, int way, int told, int what) {
        int[] a = {NONE, NONE, NONE, NONE};
        a[way] = told;
        return x.echoes(a[0], a[1], a[2], a[3], what);
    }

    private static void echoes() {
        due.says("ECHOES: from a CELL up, right, down, left, how many FREE CELLS there are to the next wall (0 to 7; NONE: not told)");
        OnlySideways wide = house(WIDE);
        for (int told = 0; told <= 7; told++) {
            for (int way = 0; way < 4; way++) {
                is("a line has eight", echo(wide, way, told, 0), 8);
            }
            is("up " + told + ", the least", echo(wide, 0, told, 1), 8 * told);
            is("right " + told + ", the least", echo(wide, 1, told, 1), 7 - told);
            is("down " + told + ", the least", echo(wide, 2, told, 1), 8 * (7 - told));
            is("left " + told + ", the least", echo(wide, 3, told, 1), told);
        }
        is("the first corner", wide.echoes(0, 7, 7, 0, 1), 0);
        is("the last corner", wide.echoes(7, 0, 0, 7, 1), 63);
        is("each by itself", wide.echoes(3, 2, 4, 5, 1), 29);
        is("one alone", wide.echoes(3, 2, 4, 5, 0), 1);
        is("not both", wide.echoes(3, 2, 5, 5, 0), 0);
        OnlySideways shut = house("###;#.#;###");
        is("shut in", shut.echoes(0, 0, 0, 0, 1), 9);
        is("at the edge of the house, not of the sheet", house("..;..").echoes(0, 1, 1, 0, 1), 0);
    }

    private static void echoesNotTold() {
        due.says("FREE CELLS where these can be: how many; the least; NONE.");
        OnlySideways x = house("#..;...");
        is("nothing is told: all", x.echoes(NONE, NONE, NONE, NONE, 0), 5);
        is("nothing is told: the least", x.echoes(NONE, NONE, NONE, NONE, 1), 1);
        is("NONE is not 0", x.echoes(NONE, 0, NONE, NONE, 0), 2);
        is("nowhere", x.echoes(7, NONE, NONE, NONE, 0), 0);
        is("nowhere: the least", x.echoes(7, NONE, NONE, NONE, 1), NONE);
        is("walls are no places", house("##;##").echoes(0, 0, 0, 0, 0), 0);
        is("walls are no places", house("##;##").echoes(0, 0, 0, 0, 1), NONE);
        is("no house", new OnlySideways().echoes(NONE, NONE, NONE, NONE, 0), 0);
        is("no house", new OnlySideways().echoes(NONE, NONE, NONE, NONE, 1), NONE);
        is("all 64", house(WIDE).echoes(NONE, NONE, NONE, NONE, 0), 64);
    }

    private static void echoesNumbers() {
        due.says("ECHOES: how many (what = 0), the least (1; NONE). BAD.");
        for (OnlySideways x : new OnlySideways[] {house(WIDE), new OnlySideways()}) {
            for (int way = 0; way < 4; way++) {
                for (int what = 0; what < 2; what++) {
                    is("way " + way + " of -2", echo(x, way, -2, what), BAD);
                    is("way " + way + " of 8", echo(x, way, 8, what), BAD);
                    for (int far : FAR) {
                        is("way " + way + " of " + far, echo(x, way, far, what), BAD);
                    }
                }
                is("what -1", echo(x, way, 0, -1), BAD);
                is("what 2", echo(x, way, 0, 2), BAD);
            }
            for (int far : FAR) {
                is("what " + far, x.echoes(0, 0, 0, 0, far), BAD);
            }
        }
    }

    private static void fogIs(OnlySideways x, int from, int to, int sixteenths, long above, long below) {
        String call = "fog(" + from + ", " + to + ", " + sixteenths + ", ";
        is(call + "0)", x.fog(from, to, sixteenths, 0), above);
        is(call + "1)", x.fog(from, to, sixteenths, 1), below);
    }

    private static void fog() {
        due.says("FOG hides in each step by sixteenths (0 to 16)");
        OnlySideways x = house(WIDE);
        fogIs(x, 0, 1, 0, 1, 1);
        fogIs(x, 0, 1, 1, 15, 16);
        fogIs(x, 0, 1, 15, 1, 16);
        fogIs(x, 0, 1, 16, 0, 1);
        fogIs(x, 0, 1, -1, LONG_BAD, LONG_BAD);
        fogIs(x, 0, 1, 17, LONG_BAD, LONG_BAD);
        for (int far : FAR) {
            fogIs(x, 0, 1, far, LONG_BAD, LONG_BAD);
        }
        for (int sixteenths = 0; sixteenths <= 16; sixteenths++) {
            fogIs(x, 27, 27, sixteenths, 1, 1);
        }
    }

    private static void fogByItself() {
        due.says("in each step from the one to the other it is not hidden, by itself: a FRACTION (0 of one that is not seen).");
        OnlySideways x = house(WIDE);
        for (int steps = 0; steps < 8; steps++) {
            fogIs(x, 0, steps, 15, 1, 1L << 4 * steps);
            fogIs(x, 0, 8 * steps, 15, 1, 1L << 4 * steps);
            fogIs(x, 63, 63 - steps, 8, 1, 1L << steps);
            fogIs(x, 63, 63 - 8 * steps, 8, 1, 1L << steps);
            fogIs(x, 0, steps, 0, 1, 1);
        }
        fogIs(x, 0, 7, 1, 170859375L, 268435456L);
        fogIs(x, 56, 0, 16, 0, 1);
        fogIs(x, 0, 9, 0, 0, 1);
        fogIs(x, 0, 63, 5, 0, 1);
        fogIs(x, 7, 8, 0, 0, 1);
        OnlySideways wall = house(".#.");
        fogIs(wall, 0, 2, 0, 0, 1);
        fogIs(wall, 2, 0, 16, 0, 1);
    }

    private static void fogOverAllPairs() {
        due.says("the chance that a CELL that is seen is seen through it");
        for (int from = 0; from < 64; from++) {
            OnlySideways x = house(WIDE);
            for (int to = 0; to < 64; to++) {
                int rows = Math.abs(from / 8 - to / 8);
                int columns = Math.abs(from % 8 - to % 8);
                boolean seen = rows == 0 || columns == 0;
                is("sees(" + from + ", " + to + ")", x.sees(from, to), seen ? 1 : 0);
                fogIs(x, from, to, 8, seen ? 1 : 0, seen ? 1L << rows + columns : 1);
            }
        }
    }

    private static void fogInLowestTerms() {
        due.says("FRACTIONS are told in lowest terms, above and below (0 by 1).");
        for (int sixteenths = 0; sixteenths <= 16; sixteenths++) {
            for (int steps = 0; steps < 8; steps++) {
                BigInteger above = BigInteger.valueOf(16 - sixteenths).pow(steps);
                BigInteger below = BigInteger.valueOf(16).pow(steps);
                BigInteger common = above.gcd(below);
                fogIs(house(WIDE), 7, 7 - steps, sixteenths, above.divide(common).longValueExact(),
                    below.divide(common).longValueExact());
            }
        }
    }

    private static void fogNumbers() {
        due.says("FOG: above, below. BAD: as VIEW. (As the least long.)");
        OnlySideways x = house(".#.");
        fogIs(x, 0, 1, 0, LONG_BAD, LONG_BAD);
        fogIs(x, 1, 0, 0, LONG_BAD, LONG_BAD);
        fogIs(x, 3, 0, 0, LONG_BAD, LONG_BAD);
        fogIs(x, 0, 8, 0, LONG_BAD, LONG_BAD);
        OnlySideways wide = house(WIDE);
        fogIs(wide, -1, 0, 0, LONG_BAD, LONG_BAD);
        fogIs(wide, 64, 0, 0, LONG_BAD, LONG_BAD);
        fogIs(wide, 0, -1, 0, LONG_BAD, LONG_BAD);
        fogIs(wide, 0, 64, 0, LONG_BAD, LONG_BAD);
        fogIs(wide, 63, 63, 0, 1, 1);
        is("what -1", wide.fog(0, 0, 0, -1), LONG_BAD);
        is("what 2", wide.fog(0, 0, 0, 2), LONG_BAD);
        is("what 2, not seen", wide.fog(0, 9, 0, 2), LONG_BAD);
        for (int far : FAR) {
            fogIs(wide, far, 0, 0, LONG_BAD, LONG_BAD);
            fogIs(wide, 0, far, 0, LONG_BAD, LONG_BAD);
            is("what " + far, wide.fog(0, 0, 0, far), LONG_BAD);
        }
        fogIs(new OnlySideways(), 0, 0, 0, LONG_BAD, LONG_BAD);
        due.says("Where the answer is a long, a refusal -x is the least long and x more.");
        is("BAD is -2", new OnlySideways().fog(0, 0, 0, 0), -9223372036854775806L);
    }
}
