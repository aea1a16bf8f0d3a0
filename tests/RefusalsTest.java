import java.util.ArrayList;
import java.util.List;

/**
 * Every call at the last numbers that are taken and at the first that are not, on both ends; each refusal, and which
 * comes first where two fit; and that a refused call changes nothing (FINDINGS but count() 8).
 */
public final class RefusalsTest {
    /** A call of the face by its numbers. */
    interface Call {
        long on(OnlySideways x, int[] a);
    }

    private static final int BAD = -2, NOT = -3, FULL = -4;
    private static final int NULL = -11, INDEX = -12, CAST = -13, STORE = -14, SIZE = -15;
    private static final int LEAST = Integer.MIN_VALUE, MOST = Integer.MAX_VALUE;
    private static final long LONG_BAD = Long.MIN_VALUE + 2;
    private static final String WIDE = Due.house(8, 8);
    private static final Due due = new Due();

    private static State.Deeds state;
    private static String stateName;
    private static List<Long> before;
    private static int findingBefore;

    public static void main(String[] args) {
        due.says("BAD -2 (a number not as told, no such thing)");
        bring("some", RefusalsTest::some);
        numbersOfTexts();
        numbersOfShapes();
        numbersOfHouse();
        numbersOfSeen();
        numbersOfLines();
        numbersOfSheets();
        due.says("Refusals, the first that fits, in the order told at each act: BAD -2 (a number not as told, no such thing), NULL, NOT -3 (as told), FULL -4, other FINDINGS.");
        bring("new", x -> { });
        refusedWhenNew();
        bring("full", RefusalsTest::full);
        refusedWhenFull();
        bring("walls", RefusalsTest::walls);
        refusedByWalls();
        bring("sheets", RefusalsTest::sheets);
        refusedSheets();
        bring("sheets, with a FINDING", x -> {
            sheets(x);
            x.sheet(0, 0, -1);
        });
        refusedSheets();
        due.says("They change nothing (FINDINGS but count() 8).");
        takenCallsChange();
        due.end();
    }

    private static void some(OnlySideways x) {
        Due.typeAll(x, 0, "8000;88c0;0001");
        Due.typeAll(x, 1, WIDE.substring(0, 70));
        x.type(1, '.');
        x.seen(0, 125);
        x.sheet(0, 0, 3);
        x.sheet(1, 1, 3);
        x.sheet(2, 2, 64);
        x.lay(0, 0, 0, 7);
        x.lay(1, 1, 1, 300);
        x.lay(2, 2, 63, 70000);
        x.copy(0, 0, 1, 0, 1);
    }

    private static void full(OnlySideways x) {
        Due.typeAll(x, 0, "8000;88c0;0001;ffff;8000;88c0;0001;ffff;");
        Due.typeAll(x, 1, WIDE);
        for (int i = 0; i < 8; i++) {
            x.seen(0, 125);
        }
        for (int s = 0; s < 4; s++) {
            x.sheet(s, s % 3, 64);
            x.lay(s, s % 3, 63, s + 1);
        }
    }

    private static void walls(OnlySideways x) {
        Due.typeAll(x, 0, "8000;c000");
        Due.typeAll(x, 1, ".#.");
        x.seen(0, 0);
    }

    private static void sheets(OnlySideways x) {
        x.sheet(0, 0, 2);
        x.sheet(1, 1, 2);
        x.sheet(2, 0, 1);
        x.lay(0, 0, 0, 1);
        x.lay(0, 0, 1, 2);
        x.lay(1, 1, 0, 3);
        x.lay(1, 1, 1, 4);
        x.lay(2, 0, 0, 5);
    }

    private static void bring(String name, State.Deeds deeds) {
        stateName = name;
        state = deeds;
        before = State.after(deeds);
        findingBefore = State.findingAfter(deeds);
    }

    private static String told(String name, int... a) {
        List<String> numbers = new ArrayList<>();
        for (int each : a) {
            numbers.add(Integer.toString(each));
        }
        return "(" + stateName + ") " + name + "(" + String.join(", ", numbers) + ")";
    }

    /** The call is refused so, and all is as before; a FINDING from -11 on is told by count() 8. */
    private static void refused(String name, Call call, long want, int... a) {
        int finding = want <= NULL && want >= SIZE ? (int) (-10 - want) : findingBefore;
        refused(name, call, want, finding, a);
    }

    private static void refused(String name, Call call, long want, int finding, int[] a) {
        String how = told(name, a);
        OnlySideways x = new OnlySideways();
        state.on(x);
        due.is(how, call.on(x, a), want);
        due.is(how + ", count(8)", x.count(8), finding);
        due.is(how + " again", call.on(x, a), want);
        List<Long> after = State.after(y -> {
            state.on(y);
            call.on(y, a);
        });
        due.holds(how + " changes nothing", after.equals(before));
    }

    private static void isTaken(String name, Call call, long bad, int... a) {
        OnlySideways x = new OnlySideways();
        state.on(x);
        due.holds(told(name, a) + " is not BAD", call.on(x, a) != bad);
    }

    /** The base is taken; with number k it is taken from lows[k] to highs[k] and BAD outside. */
    private static void numbers(String name, Call call, int[] base, int[] lows, int[] highs) {
        numbers(name, call, BAD, base, lows, highs);
    }

    private static void numbers(String name, Call call, long bad, int[] base, int[] lows, int[] highs) {
        isTaken(name, call, bad, base);
        for (int k = 0; k < base.length; k++) {
            int[] a = base.clone();
            a[k] = lows[k];
            isTaken(name, call, bad, a);
            a[k] = highs[k];
            isTaken(name, call, bad, a);
            if (lows[k] > LEAST) {
                badBelow(name, call, bad, base, k, lows[k]);
            }
            if (highs[k] < MOST) {
                badAbove(name, call, bad, base, k, highs[k]);
            }
        }
    }

    private static void badBelow(String name, Call call, long bad, int[] base, int k, int low) {
        for (int value : new int[] {low - 1, low - 64, LEAST, LEAST + 1}) {
            int[] a = base.clone();
            a[k] = value;
            refused(name, call, bad, a);
        }
    }

    private static void badAbove(String name, Call call, long bad, int[] base, int k, int high) {
        for (int value : new int[] {high + 1, high + 256, MOST, MOST - 1}) {
            int[] a = base.clone();
            a[k] = value;
            refused(name, call, bad, a);
        }
    }

    private static int[] row(int... numbers) {
        return numbers;
    }

    private static void numbersOfTexts() {
        numbers("type", (x, a) -> x.type(a[0], a[1]), row(0, '8'), row(0, 0), row(1, 255));
        numbers("wipe", (x, a) -> x.wipe(a[0]), row(0), row(0), row(1));
        numbers("undo", (x, a) -> x.undo(a[0]), row(0), row(0), row(1));
        numbers("fault", (x, a) -> x.fault(a[0]), row(0), row(0), row(1));
    }

    private static void numbersOfShapes() {
        numbers("shape", (x, a) -> x.shape(a[0], a[1]), row(1, 1), row(0, 0), row(2, 3));
        numbers("made", (x, a) -> x.made(a[0], a[1]), row(5, 1), row(1, 0), row(65535, 2));
        numbers("sight", (x, a) -> x.sight(a[0], a[1], a[2]), row(1, 1, 1), row(0, 0, 0), row(2, 3, 3));
        numbers("form", (x, a) -> x.form(a[0], a[1]), row(1, 1), row(0, 0), row(2, 2));
        numbers("kin", (x, a) -> x.kin(a[0], a[1]), row(1, 0), row(0, 0), row(2, 1));
        numbers("self", (x, a) -> x.self(a[0]), row(1), row(0), row(2));
    }

    private static void numbersOfHouse() {
        numbers("stands", (x, a) -> x.stands(a[0], a[1], a[2]), row(1, 1, 9), row(0, 0, 0), row(2, 3, 63));
        numbers("through", (x, a) -> x.through(a[0], a[1], a[2], a[3], a[4]), row(1, 1, 9, 2, 10),
            row(0, 0, 0, 0, 0), row(2, 3, 63, 3, 63));
        numbers("reach", (x, a) -> x.reach(a[0], a[1], a[2]), row(1, 1, 9), row(0, 0, 0), row(2, 3, 63));
        numbers("meet", (x, a) -> x.meet(a[0], a[1], a[2], a[3], a[4], a[5]), row(1, 1, 9, 1, 2, 10),
            row(0, 0, 0, 0, 0, 0), row(2, 3, 63, 2, 3, 63));
    }

    private static void numbersOfSeen() {
        numbers("seen", (x, a) -> x.seen(a[0], a[1]), row(1, 5), row(0, 0), row(3, 624));
        numbers("fits", (x, a) -> x.fits(a[0]), row(0), row(0), row(1));
        numbers("look", (x, a) -> x.look(a[0]), row(0), row(0), row(1));
    }

    private static void numbersOfLines() {
        numbers("view", (x, a) -> x.view(a[0]), row(9), row(0), row(63));
        numbers("sees", (x, a) -> x.sees(a[0], a[1]), row(9, 10), row(0, 0), row(63, 63));
        numbers("watchers", (x, a) -> x.watchers(a[0]), row(0), row(0), row(2));
        numbers("echoes", (x, a) -> x.echoes(a[0], a[1], a[2], a[3], a[4]), row(1, 2, 3, 4, 0),
            row(-1, -1, -1, -1, 0), row(7, 7, 7, 7, 1));
        numbers("fog", (x, a) -> x.fog(a[0], a[1], a[2], a[3]), LONG_BAD, row(9, 10, 3, 0),
            row(0, 0, 0, 0), row(63, 63, 16, 1));
    }

    private static void numbersOfSheets() {
        numbers("sheet", (x, a) -> x.sheet(a[0], a[1], a[2]), row(0, 1, 5), row(0, 0, LEAST), row(3, 2, 64));
        numbers("lose", (x, a) -> x.lose(a[0]), row(0), row(0), row(3));
        numbers("lay", (x, a) -> x.lay(a[0], a[1], a[2], a[3]), row(0, 0, 1, 5), row(0, 0, LEAST, LEAST),
            row(3, 2, MOST, MOST));
        numbers("copy", (x, a) -> x.copy(a[0], a[1], a[2], a[3], a[4]), row(0, 0, 0, 1, 1),
            row(0, LEAST, 0, LEAST, LEAST), row(3, MOST, 3, MOST, MOST));
        numbers("write", (x, a) -> x.write(a[0]), row(0), row(0), row(3));
        numbers("read", (x, a) -> x.read(a[0]), row(0), row(0), row(3));
        numbers("count", (x, a) -> x.count(a[0]), row(0), row(0), row(8));
        Call get = (x, a) -> x.get(a[0], a[1], a[2]);
        isTaken("get", get, LEAST, 0, 0, 0);
        isTaken("get", get, LEAST, 2, 2, 63);
        badBelow("get", get, LEAST, row(0, 0, 0), 0, 0);
        badAbove("get", get, LEAST, row(0, 0, 0), 0, 3);
        badBelow("get", get, LEAST, row(0, 0, 0), 1, 0);
        badAbove("get", get, LEAST, row(0, 0, 0), 1, 2);
        refused("get", get, LEAST, 1, row(3, 0, 0));
    }

    private static void refusedWhenNew() {
        for (int text = 0; text < 2; text++) {
            refused("undo", (x, a) -> x.undo(a[0]), NOT, text);
        }
        refused("shape", (x, a) -> x.shape(a[0], a[1]), BAD, 0, 0);
        refused("sight", (x, a) -> x.sight(a[0], a[1], a[2]), BAD, 0, 0, 0);
        refused("form", (x, a) -> x.form(a[0], a[1]), BAD, 0, 0);
        refused("kin", (x, a) -> x.kin(a[0], a[1]), BAD, 0, 0);
        refused("self", (x, a) -> x.self(a[0]), BAD, 0);
        refused("stands", (x, a) -> x.stands(a[0], a[1], a[2]), BAD, 0, 0, 0);
        refused("through", (x, a) -> x.through(a[0], a[1], a[2], a[3], a[4]), BAD, 0, 0, 0, 0, 0);
        refused("reach", (x, a) -> x.reach(a[0], a[1], a[2]), BAD, 0, 0, 0);
        refused("meet", (x, a) -> x.meet(a[0], a[1], a[2], a[3], a[4], a[5]), BAD, 0, 0, 0, 0, 0, 0);
        for (int what = 0; what < 2; what++) {
            refused("look", (x, a) -> x.look(a[0]), NOT, what);
        }
        refused("look", (x, a) -> x.look(a[0]), BAD, 2);
        refused("view", (x, a) -> x.view(a[0]), BAD, 0);
        refused("sees", (x, a) -> x.sees(a[0], a[1]), BAD, 0, 0);
        refused("fog", (x, a) -> x.fog(a[0], a[1], a[2], a[3]), LONG_BAD, 0, 0, 0, 0);
        for (int s = 0; s < 4; s++) {
            refused("lose", (x, a) -> x.lose(a[0]), NULL, s);
            refused("lay", (x, a) -> x.lay(a[0], a[1], a[2], a[3]), NULL, s, 0, 0, 1);
            refused("get", (x, a) -> x.get(a[0], a[1], a[2]), LEAST, 1, row(s, 0, 0));
            refused("copy", (x, a) -> x.copy(a[0], a[1], a[2], a[3], a[4]), NULL, s, 0, s, 0, 0);
            refused("write", (x, a) -> x.write(a[0]), NULL, s);
            refused("read", (x, a) -> x.read(a[0]), NULL, s);
            refused("sheet", (x, a) -> x.sheet(a[0], a[1], a[2]), SIZE, s, 0, -1);
            refused("sheet", (x, a) -> x.sheet(a[0], a[1], a[2]), BAD, s, 0, 65);
        }
    }

    private static void refusedWhenFull() {
        Call type = (x, a) -> x.type(a[0], a[1]);
        Call seen = (x, a) -> x.seen(a[0], a[1]);
        for (int text = 0; text < 2; text++) {
            refused("type", type, FULL, text, '.');
            refused("type", type, FULL, text, '8');
            refused("type", type, BAD, text, 256);
            refused("type", type, BAD, text, -1);
        }
        refused("type", type, BAD, 2, '8');
        refused("seen", seen, FULL, 0, 125);
        refused("seen", seen, FULL, 3, 624);
        refused("seen", seen, BAD, 4, 125);
        refused("seen", seen, BAD, -1, 125);
        refused("seen", seen, BAD, 0, 625);
        refused("seen", seen, BAD, 0, -1);
        refused("read", (x, a) -> x.read(a[0]), 0, 0);
        for (int s = 0; s < 4; s++) {
            refused("lay", (x, a) -> x.lay(a[0], a[1], a[2], a[3]), INDEX, s, s % 3, 64, 9);
            refused("copy", (x, a) -> x.copy(a[0], a[1], a[2], a[3], a[4]), INDEX, s, 1, s, 0, 64);
            refused("sheet", (x, a) -> x.sheet(a[0], a[1], a[2]), BAD, s, 0, 65);
        }
    }

    private static void refusedByWalls() {
        Call through = (x, a) -> x.through(a[0], a[1], a[2], a[3], a[4]);
        Call reach = (x, a) -> x.reach(a[0], a[1], a[2]);
        refused("through", through, NOT, 0, 0, 1, 0, 0);
        refused("through", through, NOT, 0, 0, 0, 0, 1);
        refused("through", through, NOT, 1, 0, 0, 0, 0);
        refused("through", through, BAD, 0, 0, 1, 0, 64);
        refused("through", through, BAD, 0, 0, 1, 4, 0);
        refused("through", through, BAD, 2, 0, 1, 0, 1);
        refused("through", through, BAD, 0, 4, 0, 0, 1);
        refused("through", through, BAD, 0, 0, -1, 0, 1);
        refused("reach", reach, NOT, 0, 0, 1);
        refused("reach", reach, NOT, 1, 0, 0);
        refused("reach", reach, BAD, 2, 0, 1);
        refused("reach", reach, BAD, 0, 4, 1);
        refused("meet", (x, a) -> x.meet(a[0], a[1], a[2], a[3], a[4], a[5]), BAD, 0, 0, 1, 2, 0, 0);
        refused("view", (x, a) -> x.view(a[0]), BAD, 1);
        refused("view", (x, a) -> x.view(a[0]), BAD, 3);
        refused("sees", (x, a) -> x.sees(a[0], a[1]), BAD, 0, 1);
        refused("sees", (x, a) -> x.sees(a[0], a[1]), BAD, 1, 0);
        refused("fog", (x, a) -> x.fog(a[0], a[1], a[2], a[3]), LONG_BAD, 0, 1, 0, 0);
        refused("fog", (x, a) -> x.fog(a[0], a[1], a[2], a[3]), LONG_BAD, 1, 0, 0, 0);
        refused("look", (x, a) -> x.look(a[0]), NOT, 0);
        refused("look", (x, a) -> x.look(a[0]), NOT, 1);
        refused("look", (x, a) -> x.look(a[0]), BAD, 2);
    }

    private static void refusedSheets() {
        Call sheet = (x, a) -> x.sheet(a[0], a[1], a[2]);
        Call lay = (x, a) -> x.lay(a[0], a[1], a[2], a[3]);
        refused("sheet", sheet, SIZE, 0, 0, -1);
        refused("sheet", sheet, SIZE, 3, 2, LEAST);
        refused("sheet", sheet, BAD, 4, 0, -1);
        refused("sheet", sheet, BAD, 0, 3, -1);
        refused("sheet", sheet, BAD, 0, 0, 65);
        refused("lose", (x, a) -> x.lose(a[0]), NULL, 3);
        refused("lay", lay, BAD, 3, 3, 0, 9);
        refused("lay", lay, BAD, 0, 3, 2, 9);
        refused("lay", lay, NULL, 3, 1, -1, 9);
        refused("lay", lay, CAST, 0, 1, 0, 9);
        refused("lay", lay, CAST, 0, 2, 2, 9);
        refused("lay", lay, CAST, 1, 0, -1, 9);
        refused("lay", lay, INDEX, 0, 0, 2, 9);
        refused("lay", lay, INDEX, 0, 0, -1, 9);
        refusedGets();
        refusedCopies();
        refused("write", (x, a) -> x.write(a[0]), NULL, 3);
        refused("read", (x, a) -> x.read(a[0]), NULL, 3);
    }

    private static void refusedGets() {
        Call get = (x, a) -> x.get(a[0], a[1], a[2]);
        refused("get", get, LEAST, findingBefore, row(4, 0, 0));
        refused("get", get, LEAST, findingBefore, row(3, 3, 0));
        refused("get", get, LEAST, findingBefore, row(0, -1, 2));
        refused("get", get, LEAST, 1, row(3, 1, -1));
        refused("get", get, LEAST, 3, row(0, 1, 0));
        refused("get", get, LEAST, 3, row(1, 2, 2));
        refused("get", get, LEAST, 2, row(0, 0, 2));
        refused("get", get, LEAST, 2, row(1, 1, -1));
    }

    private static void refusedCopies() {
        Call copy = (x, a) -> x.copy(a[0], a[1], a[2], a[3], a[4]);
        refused("copy", copy, BAD, 4, 0, 3, 0, 1);
        refused("copy", copy, BAD, 3, 0, 4, 0, 1);
        refused("copy", copy, BAD, 0, -1, -1, 0, 1);
        refused("copy", copy, NULL, 3, -1, 0, 0, 1);
        refused("copy", copy, NULL, 0, 0, 3, -1, 1);
        refused("copy", copy, STORE, 0, 0, 1, 0, 1);
        refused("copy", copy, STORE, 1, -1, 0, 0, 9);
        refused("copy", copy, INDEX, 0, 0, 2, 0, 2);
        refused("copy", copy, INDEX, 2, 0, 0, 0, 2);
        refused("copy", copy, INDEX, 0, 0, 0, 1, 2);
        refused("copy", copy, INDEX, 0, 1, 0, 0, 2);
        refused("copy", copy, INDEX, 0, -1, 2, 0, 1);
        refused("copy", copy, INDEX, 0, 0, 2, -1, 1);
        refused("copy", copy, INDEX, 0, 0, 2, 0, -1);
    }

    /** Were State blind, all of the above would hold for nothing. */
    private static void takenCallsChange() {
        bring("some", RefusalsTest::some);
        changes("type", x -> x.type(0, 'x'));
        changes("type", x -> x.undo(1));
        changes("wipe", x -> x.wipe(0));
        changes("wipe", x -> x.wipe(1));
        changes("seen", x -> x.seen(0, 125));
        changes("forget", x -> x.forget());
        changes("sheet of another FORM", x -> x.sheet(0, 1, 3));
        changes("sheet of another size", x -> x.sheet(0, 0, 4));
        changes("sheet anew", x -> x.sheet(0, 0, 3));
        changes("sheet, LOST before", x -> x.sheet(3, 0, 0));
        changes("lose", x -> x.lose(2));
        changes("lay", x -> x.lay(2, 2, 62, 1));
        changes("copy", x -> x.copy(2, 63, 2, 0, 1));
        changes("write", x -> x.write(1));
        changes("read", x -> x.read(2));
    }

    private static void changes(String name, State.Deeds deed) {
        List<Long> after = State.after(x -> {
            state.on(x);
            deed.on(x);
        });
        due.holds("a taken " + name + " is to be seen", !after.equals(before));
    }
}
