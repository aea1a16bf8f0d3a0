/** Promises 16 to 19: what was SEEN, what FITS, from where to LOOK next: each sentence at its edges. */
public final class SeenEdgesTest {
    private static final int BAD = -2, NOT = -3, FULL = -4;
    private static final int[] FAR = {Integer.MIN_VALUE, -70000, 70000, Integer.MAX_VALUE};
    private static final String ALIKE = "8000;1000;0001;0008;8000;1000;0001;0008";
    private static final String UNLIKE = "8000;c000;e000;f000;cc00;ccc0;cccc;ffff";
    private static final Due due = new Due();

    public static void main(String[] args) {
        seen();
        seenNumbers();
        forget();
        fitsNothingSeen();
        fitsAllThatWasSeen();
        fitsByOneTurn();
        fitsEachTurnOfEach();
        fitsNumbers();
        look();
        lookAtTies();
        lookOnlyAtThoseThatFit();
        lookBehindUndo();
        lookNumbers();
        due.end();
    }

    private static void is(String call, long got, long want) {
        due.is(call, got, want);
    }

    private static void seen() {
        due.says("SEEN, 8 at most: from a side (told by one who does not know how it is turned) a SIGHT (0 to 624).");
        OnlySideways x = new OnlySideways();
        is("none at first", x.count(4), 0);
        for (int n = 1; n <= 8; n++) {
            is("the " + n + ".", x.seen(n % 4, 78 * n), n);
        }
        is("a ninth", x.seen(0, 0), FULL);
        is("a ninth", x.seen(3, 624), FULL);
        is("BAD before FULL: side", x.seen(4, 0), BAD);
        is("BAD before FULL: side", x.seen(-1, 0), BAD);
        is("BAD before FULL: SIGHT", x.seen(0, 625), BAD);
        is("BAD before FULL: SIGHT", x.seen(0, -1), BAD);
        is("eight", x.count(4), 8);
        OnlySideways same = new OnlySideways();
        is("the same once", same.seen(1, 1), 1);
        is("the same twice", same.seen(1, 1), 2);
    }

    private static void seenNumbers() {
        due.says("SEEN more: how many. BAD; FULL.");
        OnlySideways x = new OnlySideways();
        is("side -1", x.seen(-1, 0), BAD);
        is("side 4", x.seen(4, 0), BAD);
        is("SIGHT -1", x.seen(0, -1), BAD);
        is("SIGHT 625", x.seen(0, 625), BAD);
        for (int far : FAR) {
            is("side " + far, x.seen(far, 0), BAD);
            is("SIGHT " + far, x.seen(0, far), BAD);
        }
        is("none of these was SEEN", x.count(4), 0);
        is("side 0, SIGHT 0", x.seen(0, 0), 1);
        is("side 3, SIGHT 624", x.seen(3, 624), 2);
        is("side 0, SIGHT 624", x.seen(0, 624), 3);
        is("side 3, SIGHT 0", x.seen(3, 0), 4);
    }

    private static void forget() {
        due.says("All SEEN are forgotten: how many.");
        for (int many = 0; many <= 8; many++) {
            OnlySideways x = Due.with("8000", "");
            for (int i = 0; i < many; i++) {
                x.seen(0, 0);
            }
            is("forget " + many, x.forget(), many);
            is("none is left", x.count(4), 0);
            is("all FIT again", x.fits(0), 4);
            is("forget again", x.forget(), 0);
            is("one can be SEEN again", x.seen(0, 125), 1);
            is("it counts alone", x.fits(0), 1);
        }
    }

    private static void fitsNothingSeen() {
        due.says("FITS: pairs (SHAPE, turned t times) by which all that was SEEN comes out so: how many; which SHAPES, as bits.");
        for (int many = 0; many <= 8; many++) {
            OnlySideways x = Due.with(UNLIKE.substring(0, Math.max(0, 5 * many - 1)), "");
            is("all pairs of " + many, x.fits(0), 4 * many);
            is("all SHAPES of " + many, x.fits(1), (1 << many) - 1);
        }
        OnlySideways square = Due.with("ffff", "");
        square.seen(0, 156);
        is("all four turns", square.fits(0), 4);
        is("one SHAPE", square.fits(1), 1);
        OnlySideways none = new OnlySideways();
        none.seen(0, 0);
        is("no SHAPES, no pairs", none.fits(0), 0);
        is("no SHAPES, no bits", none.fits(1), 0);
    }

    private static void fitsAllThatWasSeen() {
        due.says("FITS: pairs (SHAPE, turned t times) by which all that was SEEN comes out so");
        OnlySideways x = Due.with(ALIKE, "");
        for (int n = 1; n <= 8; n++) {
            is("all are one cell: the " + n + ".", x.seen(0, 125), n);
            is("pairs", x.fits(0), 8);
        }
        OnlySideways last = Due.with(ALIKE, "");
        for (int n = 1; n <= 7; n++) {
            last.seen(0, 125);
        }
        is("a pair of seven", last.fits(0), 8);
        is("the eighth counts too", last.seen(0, 0), 8);
        is("nothing FITS", last.fits(0), 0);
        is("no SHAPE FITS", last.fits(1), 0);
        OnlySideways first = Due.with(ALIKE, "");
        first.seen(0, 0);
        for (int n = 2; n <= 8; n++) {
            first.seen(0, 125);
        }
        is("the first counts too", first.fits(0), 0);
        OnlySideways ninth = Due.with(ALIKE, "");
        for (int n = 1; n <= 8; n++) {
            ninth.seen(0, 125);
        }
        ninth.seen(0, 0);
        is("a ninth that was refused does not", ninth.fits(0), 8);
    }

    private static void fitsByOneTurn() {
        due.says("told by one who does not know how it is turned");
        for (int t = 0; t < 4; t++) {
            OnlySideways x = Due.with("88c0", "");
            for (int side = 0; side < 4; side++) {
                x.seen(side, x.sight(0, t, side));
            }
            is("as it is seen turned " + t, x.fits(0), 1);
        }
        OnlySideways two = Due.with("8000;c000", "");
        two.seen(0, two.sight(0, 0, 0));
        is("one turn of the one", two.fits(1), 1);
        two.seen(0, two.sight(0, 1, 0));
        is("not by two turns at once", two.fits(1), 0);
        OnlySideways ends = Due.with("88c0;8000;8000;8000;8000;8000;8000;88c0", "");
        ends.seen(0, ends.sight(0, 2, 0));
        is("the first and the last", ends.fits(1), 0b10000001);
        is("a pair of each", ends.fits(0), 2);
    }

    private static void fitsEachTurnOfEach() {
        due.says("how many; which SHAPES, as bits.");
        String shapes = "88c0;44c0;c000;e400;8421;9009;1300;f000";
        for (int pair = 0; pair < 32; pair++) {
            OnlySideways x = Due.with(shapes, "");
            for (int side = 0; side < 4; side++) {
                x.seen(side, x.sight(pair / 4, pair % 4, side));
            }
            int many = 0;
            int bits = 0;
            for (int other = 0; other < 32; other++) {
                if (looksLike(x, pair, other)) {
                    many++;
                    bits |= 1 << other / 4;
                }
            }
            is("as SHAPE " + pair / 4 + " turned " + pair % 4, x.fits(0), many);
            is("as SHAPE " + pair / 4 + " turned " + pair % 4 + ", bits", x.fits(1), bits);
            is("LOOK, from where it was SEEN", x.look(1), Integer.bitCount(bits));
        }
    }

    private static boolean looksLike(OnlySideways x, int pair, int other) {
        boolean alike = true;
        for (int side = 0; side < 4; side++) {
            alike &= x.sight(pair / 4, pair % 4, side) == x.sight(other / 4, other % 4, side);
        }
        return alike;
    }

    private static void fitsNumbers() {
        due.says("FITS: how many pairs (what = 0), SHAPES as bits (1). BAD.");
        for (OnlySideways x : new OnlySideways[] {Due.with("8000", ""), new OnlySideways()}) {
            is("what -1", x.fits(-1), BAD);
            is("what 2", x.fits(2), BAD);
            for (int far : FAR) {
                is("what " + far, x.fits(far), BAD);
            }
        }
    }

    private static void lookIs(OnlySideways x, int side, int left) {
        is("look(0)", x.look(0), side);
        is("look(1)", x.look(1), left);
    }

    private static void look() {
        due.says("LOOK: the side from which, whatever is seen, fewest SHAPES (of which some pair FITS) are left at worst");
        lookIs(Due.with("8000", ""), 0, 1);
        lookIs(Due.with("ffff", ""), 0, 1);
        lookIs(Due.with(ALIKE, ""), 0, 8);
        lookIs(Due.with("f000;8888", ""), 0, 2);
        lookIs(Due.with("ffff;f000;8000", ""), 0, 2);
        // from above all three show 150, each in one turn
        OnlySideways x = Due.with("c000;cc00;c400", "");
        x.seen(0, 150);
        is("SHAPES that FIT", x.fits(1), 7);
        // from the right: 375, 375 + 75, 375 + 75: two are left; below: 600, 450, 575; left: 125, 150, 175
        lookIs(x, 2, 1);
        OnlySideways right = Due.with("c000;cc00", "");
        right.seen(0, 150);
        lookIs(right, 1, 1);
    }

    private static void lookAtTies() {
        due.says("of like ones the least: the side; how many.");
        OnlySideways left = Due.with("c000;cc00", "");
        left.seen(1, 375);
        is("one SHAPE is left already", left.fits(1), 1);
        lookIs(left, 0, 1);
        OnlySideways three = Due.with("8000;8888", "");
        three.seen(0, 125);
        // above: both 125; right: 500 and 624; below and left differ too: the least of these is the right
        lookIs(three, 1, 1);
        OnlySideways above = Due.with("f000;8000", "");
        above.seen(3, 125);
        // left: both 125; above: 156 and 125
        lookIs(above, 0, 1);
        OnlySideways all = Due.with("fbbf;ffbf", "");
        all.seen(0, 156);
        is("both FIT", all.fits(1), 3);
        lookIs(all, 0, 2);
        // a notch in the side from which it was not seen: that side alone tells them apart
        OnlySideways last = Due.with("f77f;f7ff", "");
        for (int side = 0; side < 3; side++) {
            last.seen(side, 156);
        }
        is("both FIT", last.fits(0), 2);
        lookIs(last, 3, 1);
    }

    private static void lookOnlyAtThoseThatFit() {
        due.says("fewest SHAPES (of which some pair FITS) are left at worst");
        // turned, each shows more SIGHTS; only the turns that FIT count
        OnlySideways x = Due.with("8000;0008;ffff;ffff", "");
        x.seen(0, 125);
        is("one turn of each of two", x.fits(0), 2);
        lookIs(x, 0, 2);
        x.forget();
        x.seen(0, 156);
        is("eight pairs of two SHAPES", x.fits(0), 8);
        lookIs(x, 0, 2);
        x.forget();
        x.seen(1, 500);
        is("the same cell by two SHAPES", x.fits(1), 3);
        // it is the same cell for both, so no side tells them apart
        lookIs(x, 0, 2);
    }

    private static void lookBehindUndo() {
        due.says("fewest SHAPES (of which some pair FITS) are left at worst");
        OnlySideways x = Due.with("8000;8000;8000", "");
        lookIs(x, 0, 3);
        for (int i = 0; i < 5; i++) {
            x.undo(0);
        }
        lookIs(x, 0, 2);
        for (int i = 0; i < 5; i++) {
            x.undo(0);
        }
        lookIs(x, 0, 1);
        is("FITS", x.fits(0), 4);
    }

    private static void lookNumbers() {
        due.says("LOOK: the side (what = 0), how many SHAPES are left at worst (1). BAD; NOT: nothing FITS.");
        OnlySideways x = new OnlySideways();
        is("no SHAPES", x.look(0), NOT);
        is("no SHAPES", x.look(1), NOT);
        is("BAD before NOT", x.look(2), BAD);
        is("BAD before NOT", x.look(-1), BAD);
        OnlySideways one = Due.with("8000", "");
        one.seen(0, 125);
        is("one pair FITS", one.look(1), 1);
        one.seen(0, 0);
        is("nothing FITS", one.look(0), NOT);
        is("nothing FITS", one.look(1), NOT);
        is("BAD before NOT", one.look(2), BAD);
        one.forget();
        is("what -1", one.look(-1), BAD);
        is("what 2", one.look(2), BAD);
        for (int far : FAR) {
            is("what " + far, one.look(far), BAD);
        }
    }
}
