import java.math.BigInteger;
import java.util.ArrayList;
import java.util.List;

/** Promises 32 and 33: count and digest: each sentence at its edges. */
public final class CountEdgesTest {
    private static final int NONE = -1, BAD = -2, NOT = -3;
    private static final long LONG_BAD = Long.MIN_VALUE + 2;
    private static final int[] FAR = {Integer.MIN_VALUE, -70000, 70000, Integer.MAX_VALUE};
    private static final String WIDE = Due.house(8, 8);
    private static final Due due = new Due();

    public static void main(String[] args) {
        countNumbers();
        countsEmptyAndFull();
        countsOfShapes();
        latestFinding();
        digestOfNew();
        digestOfOne();
        digestByCalls();
        digestAsTold();
        digestOfWhat();
        due.end();
    }

    private static void is(String call, long got, long want) {
        due.is(call, got, want);
    }

    private static void countNumbers() {
        due.says("8 the number of the latest FINDING (0 before any). BAD.");
        OnlySideways x = new OnlySideways();
        is("what 0", x.count(0), 0);
        is("what 8", x.count(8), 0);
        is("what -1", x.count(-1), BAD);
        is("what 9", x.count(9), BAD);
        for (int far : FAR) {
            is("what " + far, x.count(far), BAD);
        }
    }

    private static void countsAre(OnlySideways x, int... want) {
        for (int what = 0; what < want.length; what++) {
            is("count(" + what + ")", x.count(what), want[what]);
        }
    }

    private static void countsEmptyAndFull() {
        due.says("0 SHAPES, 1 FREE CELLS, 2, 3 bytes of texts, 4 SEEN, 5 cells of all SHAPES, 6 SHAPES that are WHOLE, 7 SHAPES that are not ONE with themselves MIRRORED");
        countsAre(new OnlySideways(), 0, 0, 0, 0, 0, 0, 0, 0, 0);
        OnlySideways full = Due.with("ffff;ffff;ffff;ffff;ffff;ffff;ffff;ffff", WIDE);
        for (int i = 0; i < 8; i++) {
            full.seen(0, 0);
        }
        countsAre(full, 8, 64, 39, 71, 8, 128, 8, 0, 0);
        countsAre(Due.with("88c0;88c0;88c0;88c0;88c0;88c0;88c0;88c0", "#"), 8, 0, 39, 1, 0, 32, 8, 8, 0);
        countsAre(Due.with("9000", "."), 1, 1, 4, 1, 0, 2, 0, 0, 0);
        full.type(0, ';');
        countsAre(full, 0, 64, 40, 71, 8, 0, 0, 0, 0);
        full.undo(1);
        countsAre(full, 0, 0, 40, 70, 8, 0, 0, 0, 0);
        full.forget();
        full.wipe(0);
        full.wipe(1);
        countsAre(full, 0, 0, 0, 0, 0, 0, 0, 0, 0);
    }

    private static void countsOfShapes() {
        due.says("7 SHAPES that are not ONE with themselves MIRRORED");
        String[] like = {"8000", "0001", "ffff", "cc00", "e400", "f99f", "a5a5", "8421", "c800", "b000", "d000"};
        String[] unlike = {"88c0", "44c0", "8c40", "4c80", "0113"};
        for (String each : like) {
            is("like its mirror: " + each, Due.with(each, "").count(7), 0);
        }
        for (String each : unlike) {
            is("unlike its mirror: " + each, Due.with(each, "").count(7), 1);
        }
        is("a mirror beside it counts too", Due.with("88c0;44c0", "").count(7), 2);
        is("the last one counts", Due.with("8000;8000;8000;8000;8000;8000;8000;88c0", "").count(7), 1);
        is("the first one counts", Due.with("88c0;8000;8000;8000;8000;8000;8000;8000", "").count(7), 1);
    }

    private static void latestFinding() {
        due.says("8 the number of the latest FINDING (0 before any).");
        OnlySideways x = Due.with("8000", ".");
        x.sheet(0, 0, 2);
        x.sheet(1, 1, 2);
        is("before any", x.count(8), 0);
        x.copy(0, 0, 1, 0, 1);
        is("STORE", x.count(8), 4);
        x.lay(0, 0, 0, 1);
        x.get(0, 0, 0);
        x.copy(0, 0, 0, 1, 1);
        x.write(0);
        x.read(0);
        x.lose(1);
        x.sheet(1, 0, 0);
        x.type(0, ';');
        x.undo(0);
        x.wipe(1);
        x.forget();
        x.digest();
        is("calls that are taken leave it", x.count(8), 4);
        x.lay(4, 0, 0, 0);
        x.get(0, 3, 0);
        x.count(9);
        x.undo(1);
        x.look(5);
        x.through(0, 0, 0, 0, 0);
        is("BAD and NOT leave it", x.count(8), 4);
        x.sheet(0, 0, -1);
        is("SIZE behind STORE", x.count(8), 5);
        x.get(3, 0, 0);
        is("NULL behind SIZE", x.count(8), 1);
        x.get(3, 0, 0);
        is("NULL behind NULL", x.count(8), 1);
        is("another object has none", new OnlySideways().count(8), 0);
    }

    private static long mixed(long... told) {
        BigInteger h = BigInteger.valueOf(17);
        for (long each : told) {
            h = h.multiply(BigInteger.valueOf(31)).add(BigInteger.valueOf(each));
        }
        return h.longValue();
    }

    private static void digestOfNew() {
        due.says("h is 17; h becomes 31 h and each of: count() 0 to 7; of texts fault()");
        is("of a new object", new OnlySideways().digest(), mixed(0, 0, 0, 0, 0, 0, 0, 0, NONE, NONE,
            0, 0, NOT, NOT, BAD, BAD, BAD, 0, NONE, NONE, 0, NONE, LONG_BAD, LONG_BAD, BAD));
        is("of FAULTS in both texts", Due.with("80", "..;").digest(), mixed(0, 0, 2, 3, 0, 0, 0, 0, 2, 3,
            0, 0, NOT, NOT, BAD, BAD, BAD, 0, NONE, NONE, 0, NONE, LONG_BAD, LONG_BAD, BAD));
        is("of walls alone", Due.with("", "##;##").digest(), mixed(0, 0, 0, 5, 0, 0, 0, 0, NONE, NONE,
            0, 0, NOT, NOT, BAD, BAD, BAD, 0, NONE, NONE, 0, NONE, LONG_BAD, LONG_BAD, BAD));
    }

    private static void digestOfOne() {
        due.says("of SHAPES shape(it, 1), sight(it, 0, 0 to 3), form() 0 to 2, kin() 0, 1, self(), stands(it, 0, 0), through(it, 0, 0, 1, 9), reach(it, 0, 0) (as they are told)");
        is("of a cell in a house", Due.with("8000", "...;...").digest(), mixed(1, 6, 4, 7, 0, 1, 1, 0, NONE, NONE,
            0x1000, 125, 500, 500, 125, 1, 4, 1, 1, 1, 1, 1, NOT, 6,
            4, 1, 0, 1, 4, 4, 1, 2, 0, 8, 3, 8, 9, 16, BAD));
        is("of a cell without a house", Due.with("8000", "").digest(), mixed(1, 0, 4, 0, 0, 1, 1, 0, NONE, NONE,
            0x1000, 125, 500, 500, 125, 1, 4, 1, 1, 1, 1, 0, NOT, NOT,
            4, 1, 0, 1, BAD, BAD, BAD, 0, NONE, NONE, 0, NONE, LONG_BAD, LONG_BAD, BAD));
        // e400 turned once is 1310: rows 0 to 2, columns 2 and 3
        OnlySideways x = Due.with("e400;8000", "#.......;........;........;........");
        x.seen(0, 160);
        is("of two where CELL 0 is a wall", x.digest(), mixed(2, 31, 9, 35, 1, 5, 2, 0, NONE, NONE,
            0x1310, 155, 325, 595, 175, 1, 10, 4, 1, 1, 4, 0, NOT, NOT,
            0x1000, 125, 500, 500, 125, 1, 4, 1, 2, 2, 1, 0, NOT, NOT,
            0, 0, NOT, NOT, BAD, 11, BAD, NONE, NONE, NONE, 8, 9, LONG_BAD, LONG_BAD, 0));
    }

    private static void digestByCalls() {
        due.says("fits() 0, 1, look() 0, 1 (as they are told), view(0), view(9), sees(0, 2) (as they are told), watchers() 0 to 2, echoes(1, NONE, NONE, NONE, 0 and 1), fog(0, 2, 4, 0 and 1) (as it is told), meet(0, 0, 0, 1, 0, 2) (as it is told); as longs that wrap.");
        String[] shapes = {"", "8000", "8000;c000", "c000;8000", "8000;c000;8800;88c0;0001;f000;8c40;9009",
            "0001;0001", "e000;8000", "8000;e000", "8000;x"};
        String[] houses = {"", ".", "#", "..#", "...", "#..;...", WIDE, "....;....;....;....", "....;..#.;....;#...",
            "..#.....;.....#..;........;....#...;#.......", "..;.;"};
        for (String shape : shapes) {
            for (String house : houses) {
                OnlySideways x = Due.with(shape, house);
                is("of " + shape + " in " + house, x.digest(), byCalls(x));
                x.seen(0, 125);
                is("of " + shape + " in " + house + ", SEEN", x.digest(), byCalls(x));
            }
        }
    }

    private static long byCalls(OnlySideways x) {
        List<Long> told = new ArrayList<>();
        for (int what = 0; what < 8; what++) {
            told.add((long) x.count(what));
        }
        told.add((long) x.fault(0));
        told.add((long) x.fault(1));
        for (int it = 0; it < x.count(0); it++) {
            int[] each = {x.shape(it, 1), x.sight(it, 0, 0), x.sight(it, 0, 1), x.sight(it, 0, 2), x.sight(it, 0, 3),
                x.form(it, 0), x.form(it, 1), x.form(it, 2), x.kin(it, 0), x.kin(it, 1), x.self(it),
                x.stands(it, 0, 0), x.through(it, 0, 0, 1, 9), x.reach(it, 0, 0)};
            for (int one : each) {
                told.add((long) one);
            }
        }
        long[] behind = {x.fits(0), x.fits(1), x.look(0), x.look(1), x.view(0), x.view(9), x.sees(0, 2),
            x.watchers(0), x.watchers(1), x.watchers(2), x.echoes(1, NONE, NONE, NONE, 0),
            x.echoes(1, NONE, NONE, NONE, 1), x.fog(0, 2, 4, 0), x.fog(0, 2, 4, 1), x.meet(0, 0, 0, 1, 0, 2)};
        for (long one : behind) {
            told.add(one);
        }
        return mixed(told.stream().mapToLong(each -> each).toArray());
    }

    private static void digestAsTold() {
        due.says("(as they are told)");
        // each of these changes one refusal into an answer, or back
        long wide = Due.with("8000;8000", WIDE).digest();
        due.holds("view(0) a wall", wide != Due.with("8000;8000", "#" + WIDE.substring(1)).digest());
        due.holds("view(9) a wall", wide != Due.with("8000;8000", WIDE.substring(0, 10) + "#" + WIDE.substring(11)).digest());
        due.holds("CELL 2 a wall", wide != Due.with("8000;8000", "..#" + WIDE.substring(3)).digest());
        due.holds("CELL 1 a wall", wide != Due.with("8000;8000", ".#" + WIDE.substring(2)).digest());
    }

    private static void digestOfWhat() {
        due.says("count() 0 to 7");
        OnlySideways x = Due.with("8000;88c0", WIDE);
        long before = x.digest();
        is("digest again", x.digest(), before);
        x.sheet(0, 0, 64);
        is("a SHEET is not in it", x.digest(), before);
        x.lose(3);
        is("count(8)", x.count(8), 1);
        is("a FINDING is not in it", x.digest(), before);
        is("digest makes no FINDING", x.count(8), 1);
        x.seen(0, 125);
        due.holds("SEEN is in it", x.digest() != before);
        x.forget();
        is("forgotten", x.digest(), before);
        x.type(0, ';');
        due.holds("a byte is in it", x.digest() != before);
        x.undo(0);
        is("undone", x.digest(), before);
    }
}
