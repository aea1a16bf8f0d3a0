import java.util.Random;

/** Runs of calls, drawn with fixed seeds, on the class and on the Oracle: every answer must be the same. */
public final class OracleTest {
    private static final int RUNS = 120, CALLS = 400;
    private static final int[] ODD = {-1, -2, 4, 8, 9, 63, 64, 65, 255, 256, 625, 65535, 65536,
        Integer.MIN_VALUE, Integer.MAX_VALUE};

    private final Due due;
    private final Random random;
    private final OnlySideways x = new OnlySideways();
    private final Oracle o = new Oracle();
    private final String run;

    private OracleTest(Due due, int seed) {
        this.due = due;
        random = new Random(seed);
        run = "run " + seed + ": ";
    }

    public static void main(String[] args) {
        Due due = new Due();
        for (int seed = 0; seed < RUNS; seed++) {
            OracleTest test = new OracleTest(due, seed);
            test.newShapes();
            test.newHouse();
            for (int i = 0; i < CALLS; i++) {
                test.call();
            }
            test.is("digest", test.x.digest(), test.o.digest());
        }
        allMade(due);
        due.end();
    }

    private static void allMade(Due due) {
        OnlySideways x = new OnlySideways();
        Oracle o = new Oracle();
        for (int rows = 1; rows < 65536; rows += 7) {
            for (int what = 0; what < 3; what++) {
                due.is("made(" + rows + ", " + what + ")", x.made(rows, what), o.made(rows, what));
            }
        }
    }

    private void is(String call, long got, long want) {
        due.is(run + call, got, want);
    }

    /** Mostly below the bound, now and then something else. */
    private int upTo(int bound) {
        return random.nextInt(40) == 0 ? ODD[random.nextInt(ODD.length)] : random.nextInt(bound);
    }

    private void put(int text, String bytes) {
        is("wipe", x.wipe(text), o.wipe(text));
        for (int i = 0; i < bytes.length(); i++) {
            is("type", x.type(text, bytes.charAt(i)), o.type(text, bytes.charAt(i)));
            if (random.nextInt(8) == 0) is("fault of " + bytes, x.fault(text), o.fault(text));
        }
        is("fault of " + bytes, x.fault(text), o.fault(text));
    }

    private void newShapes() {
        StringBuilder text = new StringBuilder();
        int many = random.nextInt(10);
        for (int i = 0; i < many; i++) {
            int rows = random.nextInt(65536) & random.nextInt(65536);
            if (random.nextBoolean()) rows &= random.nextInt(65536);
            if (random.nextInt(3) == 0) rows &= 0xCC00;
            if (random.nextInt(4) == 0 && i > 0) rows = likeTheLast(text);
            if (rows == 0 && random.nextInt(10) != 0) rows = 0x8000 >>> random.nextInt(16);
            text.append(i == 0 ? "" : ";").append(Integer.toHexString(65536 + rows).substring(1));
        }
        put(0, spoiled(text));
    }

    private int likeTheLast(StringBuilder text) {
        int rows = Integer.parseInt(text.substring(text.length() - 4), 16);
        for (int i = random.nextInt(4); i > 0 && rows > 0; i--) {
            rows = o.made(rows, random.nextInt(3));
        }
        return rows;
    }

    private void newHouse() {
        StringBuilder text = new StringBuilder();
        boolean large = random.nextBoolean();
        int width = large ? 8 : 1 + random.nextInt(8);
        int rows = large ? 8 : 1 + random.nextInt(8);
        int walls = random.nextInt(6);
        for (int i = 0; i < rows * (width + 1) - 1; i++) {
            text.append(i % (width + 1) == width ? ';' : random.nextInt(10) < walls ? '#' : '.');
        }
        put(1, spoiled(text));
    }

    private String spoiled(StringBuilder text) {
        if (random.nextInt(6) == 0 && text.length() > 0) {
            String signs = ";.#0fgx" + (char) 0 + (char) 255;
            int place = random.nextInt(text.length());
            char sign = signs.charAt(random.nextInt(signs.length()));
            if (random.nextBoolean()) text.setCharAt(place, sign);
            else text.insert(place, sign);
        }
        return text.toString();
    }

    private int s() {
        return upTo(8);
    }

    private int t() {
        return upTo(4);
    }

    private int cell() {
        return upTo(random.nextBoolean() ? 64 : 20);
    }

    private void call() {
        int kind = random.nextInt(30);
        if (kind < 6) texts(kind);
        else if (kind < 11) shapes();
        else if (kind < 16) house();
        else if (kind < 20) sights();
        else if (kind < 24) lines();
        else sheets();
    }

    private void texts(int kind) {
        int text = upTo(2);
        int b = upTo(256);
        if (kind == 0 && random.nextInt(4) == 0) newShapes();
        else if (kind == 1 && random.nextInt(4) == 0) newHouse();
        else if (kind == 2) is("type", x.type(text, b), o.type(text, b));
        else if (kind == 3) is("undo", x.undo(text), o.undo(text));
        else if (kind == 4) is("fault", x.fault(text), o.fault(text));
        else is("count", x.count(b % 10), o.count(b % 10));
        if (random.nextInt(8) == 0) is("digest", x.digest(), o.digest());
        if (random.nextInt(200) == 0) is("wipe", x.wipe(text), o.wipe(text));
    }

    private void shapes() {
        int i = s();
        int t = t();
        int what = upTo(3);
        int rows = upTo(65536);
        is("shape", x.shape(i, t), o.shape(i, t));
        is("sight", x.sight(i, t, what + 1), o.sight(i, t, what + 1));
        is("form", x.form(i, what), o.form(i, what));
        is("kin", x.kin(i, what), o.kin(i, what));
        is("self", x.self(i), o.self(i));
        is("made", x.made(rows, what), o.made(rows, what));
    }

    private void house() {
        int a = s();
        int t = t();
        int from = cell();
        int u = t();
        int to = cell();
        for (int i = 0; i < 60 && o.stands(a, t, from) == 0; i++) from = random.nextInt(64);
        for (int i = 0; i < 60 && o.stands(a, u, to) == 0; i++) to = random.nextInt(64);
        String at = "(" + a + ", " + t + ", " + from + ", " + u + ", " + to + ")";
        int any = cell();
        is("stands", x.stands(a, t, any), o.stands(a, t, any));
        is("stands" + at, x.stands(a, t, from), o.stands(a, t, from));
        is("through" + at, x.through(a, t, from, u, to), o.through(a, t, from, u, to));
        is("reach" + at, x.reach(a, t, from), o.reach(a, t, from));
        int b = s();
        int near = from + random.nextInt(19) - 9;
        is("meet" + at, x.meet(a, t, from, b, u, near), o.meet(a, t, from, b, u, near));
    }

    private void sights() {
        int side = upTo(4);
        int told = upTo(625);
        int shape = s();
        if (random.nextInt(4) != 0) told = o.sight(shape, t(), side);
        if (random.nextInt(3) == 0) is("forget", x.forget(), o.forget());
        if (random.nextInt(3) != 0) is("seen", x.seen(side, told), o.seen(side, told));
        int what = upTo(2);
        is("fits", x.fits(what), o.fits(what));
        is("look(0)", x.look(0), o.look(0));
        is("look", x.look(what), o.look(what));
    }

    private void lines() {
        int from = cell();
        int to = random.nextBoolean() ? cell() : random.nextBoolean() ? from + random.nextInt(5) - 2 : from + 8;
        int what = upTo(2);
        is("view", x.view(from), o.view(from));
        is("sees", x.sees(from, to), o.sees(from, to));
        int fog = upTo(17);
        is("fog", x.fog(from, to, fog, what), o.fog(from, to, fog, what));
        int up = random.nextInt(4) - 1;
        int right = random.nextBoolean() ? -1 : upTo(8);
        int down = random.nextInt(5) - 1;
        int left = random.nextBoolean() ? -1 : upTo(8);
        is("echoes", x.echoes(up, right, down, left, what), o.echoes(up, right, down, left, what));
        int which = upTo(3);
        is("watchers", x.watchers(which), o.watchers(which));
    }

    private void sheets() {
        int s = upTo(4);
        int form = upTo(3);
        int i = upTo(12);
        int j = upTo(12);
        int n = upTo(random.nextBoolean() ? 12 : 4);
        int v = random.nextBoolean() ? random.nextInt() : upTo(625);
        int other = upTo(4);
        switch (random.nextInt(9)) {
            case 0: is("sheet", x.sheet(s, form, n + 2), o.sheet(s, form, n + 2)); break;
            case 1: is("lose", x.lose(s), o.lose(s)); break;
            case 2: case 3: is("lay", x.lay(s, form, i, v), o.lay(s, form, i, v)); break;
            case 4: is("copy", x.copy(s, i, other, j, n), o.copy(s, i, other, j, n)); break;
            case 5: is("write", x.write(s), o.write(s)); break;
            case 6: is("read", x.read(s), o.read(s)); break;
            default: is("get", x.get(s, form, i), o.get(s, form, i));
        }
        is("count(8)", x.count(8), o.count(8));
        is("count(4)", x.count(4), o.count(4));
    }
}
