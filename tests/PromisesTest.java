/** Each promise by hand-made calls: ordinary inputs, the edges that the document names, wrong inputs. */
public final class PromisesTest {
    private static final int NONE = -1, BAD = -2, NOT = -3, FULL = -4;
    private static final int NULL = -11, INDEX = -12, CAST = -13, STORE = -14, SIZE = -15;
    private static final int LEAST = Integer.MIN_VALUE;
    private static final int[] OUTSIDE = {Integer.MIN_VALUE, -70000, -64, -8, -4, -2, -1, 64, 70000, Integer.MAX_VALUE};
    private static final String WIDE = "........;........;........;........;........;........;........;........";
    private static final Due due = new Due();

    public static void main(String[] args) {
        newObject();
        type();
        wipe();
        undo();
        faultOfShapes();
        faultOfHouse();
        shape();
        made();
        sight();
        form();
        kin();
        self();
        stands();
        through();
        reach();
        meet();
        seenAndForget();
        fits();
        look();
        view();
        sees();
        watchers();
        echoes();
        fog();
        sheet();
        lose();
        layAndGet();
        copy();
        write();
        read();
        count();
        digest();
        wrongNumbers();
        refusalsChangeNothing();
        due.end();
    }

    private static void is(String call, long got, long want) {
        due.is(call, got, want);
    }

    private static void newObject() {
        OnlySideways x = new OnlySideways();
        for (int what = 0; what <= 8; what++) {
            is("new: count(" + what + ")", x.count(what), 0);
        }
        is("new: fault(0)", x.fault(0), NONE);
        is("new: fault(1)", x.fault(1), NONE);
        for (int s = 0; s < 4; s++) {
            is("new: lose(" + s + ")", x.lose(s), NULL);
        }
        is("NONE", OnlySideways.NONE, NONE);
        is("BAD", OnlySideways.BAD, BAD);
        is("NOT", OnlySideways.NOT, NOT);
        is("FULL", OnlySideways.FULL, FULL);
    }

    private static void type() {
        OnlySideways x = new OnlySideways();
        is("type a byte 0", x.type(0, 0), 1);
        is("type a byte 255", x.type(0, 255), 2);
        is("type -1", x.type(0, -1), BAD);
        is("type 256", x.type(0, 256), BAD);
        is("type to text -1", x.type(-1, 0), BAD);
        is("type to text 2", x.type(2, 0), BAD);
        for (int i = 3; i <= 40; i++) {
            is("type byte " + i + " of 40", x.type(0, '0'), i);
        }
        is("type a 41st", x.type(0, '0'), FULL);
        is("type a wrong 41st", x.type(0, 256), BAD);
        is("40 bytes", x.count(2), 40);
        for (int i = 1; i <= 71; i++) {
            is("type byte " + i + " of 71", x.type(1, '.'), i);
        }
        is("type a 72nd", x.type(1, '.'), FULL);
        is("71 bytes", x.count(3), 71);
    }

    private static void wipe() {
        OnlySideways x = Due.with("8000;c000", "..");
        is("wipe(-1)", x.wipe(-1), BAD);
        is("wipe(2)", x.wipe(2), BAD);
        is("wipe(0)", x.wipe(0), 9);
        is("no SHAPES", x.count(0), 0);
        is("the house stays", x.count(1), 2);
        is("wipe(0) again", x.wipe(0), 0);
        is("wipe(1)", x.wipe(1), 2);
        is("no FREE CELLS", x.count(1), 0);
        is("fault(1) of a wiped text", x.fault(1), NONE);
        is("type behind a wipe", x.type(0, '1'), 1);
    }

    private static void undo() {
        OnlySideways x = Due.with("8000;c", "..;");
        is("undo(-1)", x.undo(-1), BAD);
        is("undo(2)", x.undo(2), BAD);
        is("undo(0)", x.undo(0), 5);
        is("undo(0)", x.undo(0), 4);
        is("one SHAPE", x.count(0), 1);
        is("undo(1)", x.undo(1), 2);
        is("FREE CELLS again", x.count(1), 2);
        is("undo(1)", x.undo(1), 1);
        is("undo(1)", x.undo(1), 0);
        is("fault(1) undone", x.fault(1), NONE);
        is("undo(1) of none", x.undo(1), NOT);
        is("undo a full text", undoFull(), 39);
    }

    private static int undoFull() {
        OnlySideways x = Due.with("0123456789012345678901234567890123456789", "");
        return x.undo(0);
    }

    private static void faultIs(int text, String bytes, int want) {
        OnlySideways x = text == 0 ? Due.with(bytes, "") : Due.with("", bytes);
        is("fault of '" + bytes + "'", x.fault(text), want);
        if (want != NONE) {
            is("things of '" + bytes + "'", x.count(text), 0);
        }
        is("bytes of '" + bytes + "'", x.count(2 + text), bytes.length());
    }

    private static void faultOfShapes() {
        faultIs(0, "", NONE);
        faultIs(0, "1", 1);
        faultIs(0, "123", 3);
        faultIs(0, "1234", NONE);
        faultIs(0, "0001", NONE);
        faultIs(0, "0000", 3);
        faultIs(0, "0000;8000", 3);
        faultIs(0, "000;", 3);
        faultIs(0, ";", 0);
        faultIs(0, "12345", 4);
        faultIs(0, "1234;", 5);
        faultIs(0, "1234;;", 5);
        faultIs(0, "1234;abcf", NONE);
        faultIs(0, "1234;abcg", 8);
        faultIs(0, "1234;0000", 8);
        faultIs(0, "A000", 0);
        faultIs(0, "/000", 0);
        faultIs(0, ":000", 0);
        faultIs(0, "1`00", 1);
        faultIs(0, "1 00", 1);
        faultIs(0, "1;1;1;1", 1);
        faultIs(0, "1111;1111;1111;1111;1111;1111;1111;1111", NONE);
        faultIs(0, "1111;1111;1111;1111;1111;1111;1111;1111;", 40);
        faultIs(0, "1111;1111;1111;1111;1111;1111;1111;11111", 39);
    }

    private static void faultOfHouse() {
        faultIs(1, "", NONE);
        faultIs(1, ".", NONE);
        faultIs(1, "#", NONE);
        faultIs(1, ";", 0);
        faultIs(1, "x", 0);
        faultIs(1, ".x", 1);
        faultIs(1, ".;", 2);
        faultIs(1, ".;;", 2);
        faultIs(1, ".;#", NONE);
        faultIs(1, "..;.", 4);
        faultIs(1, "..;.;", 4);
        faultIs(1, "..;.;..", 4);
        faultIs(1, "..;...", 5);
        faultIs(1, "..;..x", 5);
        faultIs(1, "..;.x", 4);
        faultIs(1, "........", NONE);
        faultIs(1, ".........", 8);
        faultIs(1, "........x", 8);
        faultIs(1, "........;", 9);
        faultIs(1, ".;.;.;.;.;.;.;.", NONE);
        faultIs(1, ".;.;.;.;.;.;.;.;", 16);
        faultIs(1, ".;.;.;.;.;.;.;.;.", 16);
        faultIs(1, ".;.;.;.;.;.;.;.;x", 16);
        faultIs(1, WIDE, NONE);
        is("fault(2)", new OnlySideways().fault(2), BAD);
        is("fault(-1)", new OnlySideways().fault(-1), BAD);
    }

    private static void shape() {
        OnlySideways x = Due.with("8421;e400;0001", "");
        is("shape(0, 0)", x.shape(0, 0), 0x8421);
        is("shape(0, 1)", x.shape(0, 1), 0x1248);
        is("shape(1, 0)", x.shape(1, 0), 0xe400);
        is("shape(1, 1)", x.shape(1, 1), 0x1310);
        is("shape(1, 2)", x.shape(1, 2), 0x0027);
        is("shape(1, 3)", x.shape(1, 3), 0x08c8);
        is("shape(2, 1)", x.shape(2, 1), 0x0008);
        is("shape(3, 0)", x.shape(3, 0), BAD);
        is("shape(-1, 0)", x.shape(-1, 0), BAD);
        is("shape(0, 4)", x.shape(0, 4), BAD);
        is("shape(0, -1)", x.shape(0, -1), BAD);
        x.type(0, ';');
        is("shape(0, 0) with a FAULT", x.shape(0, 0), BAD);
    }

    private static void made() {
        OnlySideways x = new OnlySideways();
        is("made(0x1310, 0)", x.made(0x1310, 0), 0x0027);
        is("made(0x8000, 0)", x.made(0x8000, 0), 0x1000);
        is("made(0x8421, 1)", x.made(0x8421, 1), 0x1248);
        is("made(0xe480, 1)", x.made(0xe480, 1), 0x7210);
        is("made(0x0027, 2)", x.made(0x0027, 2), 0x4e00);
        is("made(0x0012, 2)", x.made(0x0012, 2), 0x4800);
        is("made(0x0110, 2)", x.made(0x0110, 2), 0x8800);
        is("made(0x8001, 2)", x.made(0x8001, 2), 0x8001);
        is("made(1, 2)", x.made(1, 2), 0x8000);
        is("made(65535, 1)", x.made(65535, 1), 65535);
        is("made(0, 0)", x.made(0, 0), BAD);
        is("made(-1, 0)", x.made(-1, 0), BAD);
        is("made(65536, 0)", x.made(65536, 0), BAD);
        is("made(1, -1)", x.made(1, -1), BAD);
        is("made(1, 3)", x.made(1, 3), BAD);
    }

    private static void sight() {
        // .X..
        // ..XX
        // ....
        // .X..
        OnlySideways x = Due.with("4304", "");
        is("from above", x.sight(0, 0, 0), 0 * 125 + 1 * 25 + 2 * 5 + 2);
        is("from the right", x.sight(0, 0, 1), 3 * 125 + 1 * 25 + 0 * 5 + 3);
        is("from below", x.sight(0, 0, 2), 0 * 125 + 1 * 25 + 3 * 5 + 3);
        is("from the left", x.sight(0, 0, 3), 2 * 125 + 3 * 25 + 0 * 5 + 2);
        // ....  X..X  ..X.  ..X. : turned once
        is("turned, from above", x.sight(0, 1, 0), 2 * 125 + 0 * 25 + 3 * 5 + 2);
        is("turned, from the right", x.sight(0, 1, 1), 0 * 125 + 1 * 25 + 2 * 5 + 2);
        is("sight of no SHAPE", x.sight(1, 0, 0), BAD);
        is("sight of SHAPE -1", x.sight(-1, 0, 0), BAD);
        is("sight in turn 4", x.sight(0, 4, 0), BAD);
        is("sight in turn -1", x.sight(0, -1, 0), BAD);
        is("sight from side 4", x.sight(0, 0, 4), BAD);
        is("sight from side -1", x.sight(0, 0, -1), BAD);
    }

    private static void form() {
        OnlySideways x = Due.with("ffff;f99f;8420;9009;0001;1800;e8e0", "");
        formIs(x, 0, 1, 16, 16);
        formIs(x, 1, 1, 24, 12);
        formIs(x, 2, 0, 12, 3);
        formIs(x, 3, 0, 16, 4);
        formIs(x, 4, 1, 4, 1);
        // the last cell of a row does not hang together with the first of the next
        formIs(x, 5, 0, 8, 2);
        formIs(x, 6, 1, 16, 7);
        is("form(7, 0)", x.form(7, 0), BAD);
        is("form(-1, 0)", x.form(-1, 0), BAD);
        is("form(0, -1)", x.form(0, -1), BAD);
        is("form(0, 3)", x.form(0, 3), BAD);
    }

    private static void formIs(OnlySideways x, int shape, int whole, int outline, int cells) {
        is("form(" + shape + ", 0)", x.form(shape, 0), whole);
        is("form(" + shape + ", 1)", x.form(shape, 1), outline);
        is("form(" + shape + ", 2)", x.form(shape, 2), cells);
    }

    private static void kin() {
        // an L, its mirror, the L turned and shifted, a square, the mirror turned
        OnlySideways x = Due.with("88c0;44c0;0074;cc00;0e20", "");
        is("kin(0, 0)", x.kin(0, 0), 0b00101);
        is("kin(0, 1)", x.kin(0, 1), 0b10010);
        is("kin(1, 0)", x.kin(1, 0), 0b10010);
        is("kin(1, 1)", x.kin(1, 1), 0b00101);
        is("kin(2, 0)", x.kin(2, 0), 0b00101);
        is("kin(3, 0)", x.kin(3, 0), 0b01000);
        is("kin(3, 1)", x.kin(3, 1), 0b01000);
        is("kin(4, 1)", x.kin(4, 1), 0b00101);
        is("kin(5, 0)", x.kin(5, 0), BAD);
        is("kin(-1, 0)", x.kin(-1, 0), BAD);
        is("kin(0, -1)", x.kin(0, -1), BAD);
        is("kin(0, 2)", x.kin(0, 2), BAD);
        OnlySideways eight = Due.with("8000;0800;0080;0008;4000;2000;1000;0001", "");
        is("kin of eight that are ONE", eight.kin(7, 0), 255);
    }

    private static void self() {
        OnlySideways x = Due.with("cc00;f000;88c0;0660;8c40;0001", "");
        is("self of a square", x.self(0), 1);
        is("self of a line", x.self(1), 2);
        is("self of an L", x.self(2), 4);
        is("self of a square in the middle", x.self(3), 1);
        is("self of an S", x.self(4), 2);
        is("self of a cell", x.self(5), 1);
        is("self(6)", x.self(6), BAD);
        is("self(-1)", x.self(-1), BAD);
    }

    private static void stands() {
        OnlySideways x = Due.with("c000;0001;8000", "...;.#.");
        is("stands(0, 0, 0)", x.stands(0, 0, 0), 1);
        is("stands(0, 0, 1)", x.stands(0, 0, 1), 1);
        is("stands beyond the width", x.stands(0, 0, 2), 0);
        is("stands on a wall", x.stands(0, 0, 8), 0);
        // turned, its cells are in column 3
        is("stands(0, 1, 0)", x.stands(0, 1, 0), 0);
        is("stands below the house", x.stands(2, 0, 16), 0);
        is("stands(2, 0, 10)", x.stands(2, 0, 10), 1);
        OnlySideways wide = Due.with("c000;0001;8000;0800", WIDE);
        is("no wrap to the next row", wide.stands(0, 0, 7), 0);
        is("stands at 62", wide.stands(0, 0, 62), 1);
        is("its cell outside to the right and below", wide.stands(1, 0, 63), 0);
        is("its cell outside to the right", wide.stands(1, 0, 5), 0);
        is("its cell at the last CELL", wide.stands(1, 0, 36), 1);
        is("its cell outside below", wide.stands(1, 0, 44), 0);
        is("empty at its place", wide.stands(3, 0, 56), 0);
        is("stands(2, 0, 63)", wide.stands(2, 0, 63), 1);
        is("stands(2, 0, 64)", wide.stands(2, 0, 64), BAD);
        is("stands(2, 0, -1)", wide.stands(2, 0, -1), BAD);
        is("stands(2, 4, 0)", wide.stands(2, 4, 0), BAD);
        is("stands(2, -1, 0)", wide.stands(2, -1, 0), BAD);
        is("stands(4, 0, 0)", wide.stands(4, 0, 0), BAD);
        is("stands(-1, 0, 0)", wide.stands(-1, 0, 0), BAD);
    }

    private static void through() {
        OnlySideways x = Due.with("8000;c000", "....;.##.;....");
        is("in place", x.through(0, 0, 0, 0, 0), 0);
        is("one right", x.through(0, 0, 0, 0, 1), 1);
        is("round the wall", x.through(0, 0, 1, 0, 17), 4);
        is("a turn is a step", x.through(0, 0, 0, 1, 0), 1);
        is("a pair of cells has no way down", x.through(1, 0, 0, 0, 16), NONE);
        is("it cannot stand there", x.through(0, 0, 9, 0, 0), NOT);
        is("it cannot stand here", x.through(0, 0, 0, 0, 9), NOT);
        OnlySideways wide = Due.with("8000;0008;f000", WIDE);
        is("corner to corner", wide.through(0, 0, 0, 0, 63), 14);
        is("no wrap", wide.through(0, 0, 7, 0, 8), 8);
        // f000 turned once stands in column 3 of its square
        is("a line turned", wide.through(2, 0, 0, 1, 0), 1);
        is("turned to the left is one step", wide.through(2, 0, 0, 3, 0), 1);
        is("turned twice", wide.through(2, 0, 0, 2, 0), 2);
        is("a line at the far edge", wide.through(2, 0, 32, 1, 32), 1);
        is("a line that must come up to turn", wide.through(2, 0, 56, 2, 32), 5);
        is("BAD before NOT", x.through(0, 0, 9, 0, 64), BAD);
        is("through(2, ..)", x.through(2, 0, 0, 0, 0), BAD);
        is("through t 4", x.through(0, 4, 0, 0, 0), BAD);
        is("through u 4", x.through(0, 0, 0, 4, 0), BAD);
        is("through u -1", x.through(0, 0, 0, -1, 0), BAD);
        is("through from 64", x.through(0, 0, 64, 0, 0), BAD);
        is("through to -1", x.through(0, 0, 0, 0, -1), BAD);
    }

    private static void reach() {
        OnlySideways x = Due.with("8000;c000;8800", "..#.;..#.;....");
        is("a pair above", x.reach(1, 0, 0), 5);
        is("reach from the other side", x.reach(1, 0, 18), 5);
        is("reach of a column", x.reach(2, 0, 3), 2);
        is("reach NOT", x.reach(0, 0, 2), NOT);
        is("reach(3, 0, 0)", x.reach(3, 0, 0), BAD);
        is("reach(0, 4, 0)", x.reach(0, 4, 0), BAD);
        is("reach(0, 0, 64)", x.reach(0, 0, 64), BAD);
        OnlySideways wide = Due.with("8000;ffff", WIDE);
        // the cell of 8000 is in one of the four corners of its square: stands everywhere
        is("reach of a cell", wide.reach(0, 0, 0), 64);
        is("reach of all sixteen", wide.reach(1, 0, 0), 25);
    }

    private static void meet() {
        OnlySideways x = Due.with("8000;c000;0004;9000", "...;.#.;....".substring(0, 7));
        is("side by side", x.meet(0, 0, 0, 0, 0, 1), 1);
        is("the same CELL", x.meet(0, 0, 0, 0, 0, 0), 0);
        is("one on the other", x.meet(1, 0, 0, 0, 0, 1), 0);
        is("one cannot stand", x.meet(0, 0, 9, 0, 0, 0), 0);
        is("the other cannot stand", x.meet(0, 0, 0, 0, 0, 9), 0);
        is("meet(4, ..)", x.meet(4, 0, 0, 0, 0, 0), BAD);
        is("meet b 4", x.meet(0, 0, 0, 4, 0, 0), BAD);
        is("meet t 4", x.meet(0, 4, 0, 0, 0, 0), BAD);
        is("meet u -1", x.meet(0, 0, 0, 0, -1, 0), BAD);
        is("meet from 64", x.meet(0, 0, 64, 0, 0, 0), BAD);
        is("meet to -1", x.meet(0, 0, 0, 0, 0, -1), BAD);
        OnlySideways wide = Due.with("f99f;6600;0660", WIDE);
        is("one inside of the other", wide.meet(0, 0, 0, 1, 0, 8), 1);
        is("one inside, not shifted", wide.meet(0, 0, 0, 2, 0, 0), 1);
        is("one too far up", wide.meet(0, 0, 0, 1, 0, 0), 0);
    }

    private static void seenAndForget() {
        OnlySideways x = new OnlySideways();
        is("forget none", x.forget(), 0);
        is("seen(0, 0)", x.seen(0, 0), 1);
        is("seen(3, 624)", x.seen(3, 624), 2);
        is("seen(4, 0)", x.seen(4, 0), BAD);
        is("seen(-1, 0)", x.seen(-1, 0), BAD);
        is("seen(0, 625)", x.seen(0, 625), BAD);
        is("seen(0, -1)", x.seen(0, -1), BAD);
        for (int n = 3; n <= 8; n++) {
            is("seen the " + n, x.seen(1, n), n);
        }
        is("seen a ninth", x.seen(1, 1), FULL);
        is("seen a wrong ninth", x.seen(1, 625), BAD);
        is("count(4)", x.count(4), 8);
        is("forget", x.forget(), 8);
        is("count(4) behind", x.count(4), 0);
        is("seen again", x.seen(1, 1), 1);
    }

    private static void fits() {
        OnlySideways x = Due.with("8000;c000;8800", "");
        is("all pairs", x.fits(0), 12);
        is("all SHAPES", x.fits(1), 7);
        x.seen(0, 125);
        // 8000 as it is; 8800 as it is; turned, the others show two columns or another one
        is("pairs at the left", x.fits(0), 2);
        is("SHAPES at the left", x.fits(1), 0b101);
        x.seen(2, 500);
        is("8000 from below is 4 off", x.fits(1), 0b001);
        x.seen(1, 0);
        is("nothing is so", x.fits(0), 0);
        is("no SHAPE is so", x.fits(1), 0);
        x.forget();
        x.seen(0, 1);
        x.seen(3, 500);
        // each alone is shown by two SHAPES, both by one and the same turn of 8000 alone
        is("both by one turn", x.fits(1), 0b001);
        is("fits(2)", x.fits(2), BAD);
        is("fits(-1)", x.fits(-1), BAD);
        is("fits of no SHAPES", new OnlySideways().fits(0), 0);
    }

    private static void look() {
        // c000 and c400 turned: told apart from above unless both show 150
        OnlySideways x = Due.with("c000;c400", "");
        is("look(0)", x.look(0), 0);
        x.seen(0, 150);
        x.seen(1, 375);
        is("only c000", x.fits(1), 1);
        is("look at one", x.look(0), 0);
        is("one is left", x.look(1), 1);
        x.forget();
        x.seen(0, 150);
        is("two left before", x.fits(1), 3);
        is("from the right they differ", x.look(0), 1);
        is("left", x.look(1), 1);
        x.seen(0, 0);
        is("nothing FITS", x.look(0), NOT);
        is("nothing FITS", x.look(1), NOT);
        is("look(2)", x.look(2), BAD);
        is("look(-1)", x.look(-1), BAD);
        OnlySideways alike = Due.with("8000;8000;0008", "");
        is("three alike", alike.look(1), 3);
        is("the least side", alike.look(0), 0);
        // one SHAPE with two turns that look the same counts once
        is("a square counts once", Due.with("ffff", "").look(1), 1);
    }

    private static void view() {
        OnlySideways x = Due.with("", "..#.;....;#...");
        is("view(0)", x.view(0), 3);
        is("view(1)", x.view(1), 4);
        is("view(3)", x.view(3), 3);
        is("view(9)", x.view(9), 6);
        is("view(2)", x.view(2), BAD);
        is("view(4)", x.view(4), BAD);
        is("view(-1)", x.view(-1), BAD);
        is("view(64)", x.view(64), BAD);
        is("the most", Due.with("", WIDE).view(63), 15);
    }

    private static void sees() {
        OnlySideways x = Due.with("", "..#.;....;#...");
        is("itself", x.sees(0, 0), 1);
        is("in the row", x.sees(0, 1), 1);
        is("behind a wall", x.sees(0, 3), 0);
        is("askew", x.sees(0, 9), 0);
        is("in the column", x.sees(1, 17), 1);
        is("upwards", x.sees(17, 1), 1);
        is("from a wall", x.sees(2, 3), BAD);
        is("to a wall", x.sees(3, 2), BAD);
        is("sees(-1, 0)", x.sees(-1, 0), BAD);
        is("sees(0, 64)", x.sees(0, 64), BAD);
        is("no wrap", Due.with("", WIDE).sees(7, 8), 0);
    }

    private static void watchersAre(String house, int many, int first, int second) {
        OnlySideways x = Due.with("", house);
        is("watchers(0) of " + house, x.watchers(0), many);
        is("watchers(1) of " + house, x.watchers(1), first);
        is("watchers(2) of " + house, x.watchers(2), second);
    }

    private static void watchers() {
        watchersAre("", 0, NONE, NONE);
        watchersAre("##;##", 0, NONE, NONE);
        watchersAre(".", 1, 0, NONE);
        watchersAre("#.", 1, 1, NONE);
        watchersAre("....", 1, 0, NONE);
        watchersAre("#.#;...;#.#", 1, 9, NONE);
        watchersAre("..;..", 2, 0, 1);
        watchersAre(".#.", 2, 0, 2);
        watchersAre("........;........", 2, 0, 8);
        watchersAre("#..;###;..#", 2, 1, 16);
        watchersAre(".#.#.", NONE, NONE, NONE);
        watchersAre("...;...;...", NONE, NONE, NONE);
        watchersAre(".#.;...;.#.", 2, 0, 10);
        is("watchers(3)", new OnlySideways().watchers(3), BAD);
        is("watchers(-1)", new OnlySideways().watchers(-1), BAD);
    }

    private static void echoes() {
        OnlySideways x = Due.with("", "...#;.#..;....");
        is("all FREE", x.echoes(NONE, NONE, NONE, NONE, 0), 10);
        is("the least", x.echoes(NONE, NONE, NONE, NONE, 1), 0);
        is("up 2", x.echoes(2, NONE, NONE, NONE, 0), 2);
        is("up 2, least", x.echoes(2, NONE, NONE, NONE, 1), 16);
        is("right 3", x.echoes(NONE, 3, NONE, NONE, 1), 16);
        is("down 1", x.echoes(NONE, NONE, 1, NONE, 0), 3);
        is("down 1, least", x.echoes(NONE, NONE, 1, NONE, 1), 8);
        is("left 1", x.echoes(NONE, NONE, NONE, 1, 0), 3);
        is("left 1, least", x.echoes(NONE, NONE, NONE, 1, 1), 1);
        is("all four", x.echoes(1, 1, 1, 0, 1), 10);
        is("nowhere", x.echoes(7, 7, 7, 7, 0), 0);
        is("nowhere, least", x.echoes(7, 7, 7, 7, 1), NONE);
        OnlySideways wide = Due.with("", WIDE);
        is("seven to the right", wide.echoes(NONE, 7, NONE, 0, 0), 8);
        is("seven down", wide.echoes(0, NONE, 7, NONE, 0), 8);
        is("the last corner", wide.echoes(7, 0, 0, 7, 1), 63);
        is("up -2", x.echoes(-2, 0, 0, 0, 0), BAD);
        is("right 8", x.echoes(0, 8, 0, 0, 0), BAD);
        is("down -2", x.echoes(0, 0, -2, 0, 0), BAD);
        is("left 8", x.echoes(0, 0, 0, 8, 0), BAD);
        is("what 2", x.echoes(0, 0, 0, 0, 2), BAD);
        is("what -1", x.echoes(0, 0, 0, 0, -1), BAD);
    }

    private static void fogIs(OnlySideways x, int from, int to, int sixteenths, long above, long below) {
        String call = "fog(" + from + ", " + to + ", " + sixteenths + ", ";
        is(call + "0)", x.fog(from, to, sixteenths, 0), above);
        is(call + "1)", x.fog(from, to, sixteenths, 1), below);
    }

    private static void fog() {
        OnlySideways x = Due.with("", WIDE);
        fogIs(x, 0, 0, 0, 1, 1);
        fogIs(x, 0, 0, 16, 1, 1);
        fogIs(x, 0, 7, 0, 1, 1);
        fogIs(x, 0, 7, 16, 0, 1);
        fogIs(x, 0, 7, 1, 170859375L, 268435456L);
        fogIs(x, 56, 0, 15, 1, 268435456L);
        fogIs(x, 9, 8, 6, 5, 8);
        fogIs(x, 9, 25, 8, 1, 4);
        fogIs(x, 0, 9, 3, 0, 1);
        OnlySideways walls = Due.with("", ".#.");
        fogIs(walls, 0, 2, 0, 0, 1);
        long bad = Long.MIN_VALUE + 2;
        fogIs(walls, 0, 1, 0, bad, bad);
        fogIs(walls, 1, 0, 0, bad, bad);
        fogIs(walls, -1, 0, 0, bad, bad);
        fogIs(walls, 0, 64, 0, bad, bad);
        fogIs(walls, 0, 0, -1, bad, bad);
        fogIs(walls, 0, 0, 17, bad, bad);
        is("fog what 2", walls.fog(0, 0, 0, 2), bad);
        is("fog what -1", walls.fog(0, 0, 0, -1), bad);
    }

    private static void sheet() {
        OnlySideways x = new OnlySideways();
        is("sheet(0, 0, 0)", x.sheet(0, 0, 0), 0);
        is("sheet(3, 2, 64)", x.sheet(3, 2, 64), 64);
        is("0 at first", x.get(3, 2, 63), 0);
        is("sheet(0, 0, 65)", x.sheet(0, 0, 65), BAD);
        is("sheet(0, 3, 1)", x.sheet(0, 3, 1), BAD);
        is("sheet(0, -1, 1)", x.sheet(0, -1, 1), BAD);
        is("sheet(4, 0, 1)", x.sheet(4, 0, 1), BAD);
        is("sheet(-1, 0, 1)", x.sheet(-1, 0, 1), BAD);
        is("BAD before SIZE", x.sheet(4, 0, -1), BAD);
        is("no FINDING yet", x.count(8), 0);
        is("SIZE", x.sheet(3, 2, -1), SIZE);
        is("count(8)", x.count(8), 5);
        is("SIZE changes nothing", x.get(3, 2, 63), 0);
        x.lay(3, 2, 5, 9);
        is("a new row", x.sheet(3, 1, 6), 6);
        is("0 again", x.get(3, 1, 5), 0);
        is("no more items", x.get(3, 1, 6), LEAST);
    }

    private static void lose() {
        OnlySideways x = new OnlySideways();
        is("lose(-1)", x.lose(-1), BAD);
        is("lose(4)", x.lose(4), BAD);
        is("no FINDING", x.count(8), 0);
        is("lose(0)", x.lose(0), NULL);
        is("NULL is 1", x.count(8), 1);
        x.sheet(0, 0, 7);
        is("lose seven", x.lose(0), 7);
        is("lose again", x.lose(0), NULL);
        x.sheet(0, 0, 0);
        is("lose none", x.lose(0), 0);
    }

    private static void layAndGet() {
        OnlySideways x = new OnlySideways();
        x.sheet(0, 0, 3);
        x.sheet(1, 1, 3);
        x.sheet(2, 2, 3);
        is("lay a byte", x.lay(0, 0, 0, 127), 1);
        is("get a byte", x.get(0, 0, 0), 127);
        x.lay(0, 0, 1, 128);
        is("get 128 as a byte", x.get(0, 0, 1), -128);
        x.lay(0, 0, 2, 0x12345601);
        is("the lowest 8 bits", x.get(0, 0, 2), 1);
        x.lay(1, 1, 0, 0x12348000);
        is("the lowest 16 bits", x.get(1, 1, 0), -32768);
        x.lay(1, 1, 1, 40);
        is("get a short", x.get(1, 1, 1), 40);
        x.lay(2, 2, 2, 0x12345678);
        is("get an int", x.get(2, 2, 2), 0x12345678);
        findings(x);
    }

    private static void findings(OnlySideways x) {
        is("lay BAD sheet", x.lay(4, 0, 0, 0), BAD);
        is("lay BAD form", x.lay(0, 3, 0, 0), BAD);
        is("lay BAD form of a LOST one", x.lay(3, -1, 0, 0), BAD);
        is("get BAD sheet", x.get(-1, 0, 0), LEAST);
        is("get BAD form", x.get(0, 3, 0), LEAST);
        is("no FINDING by BAD", x.count(8), 0);
        is("lay NULL", x.lay(3, 0, 0, 0), NULL);
        is("count(8) NULL", x.count(8), 1);
        is("lay CAST before INDEX", x.lay(0, 1, 9, 0), CAST);
        is("count(8) CAST", x.count(8), 3);
        is("lay INDEX", x.lay(0, 0, 3, 0), INDEX);
        is("count(8) INDEX", x.count(8), 2);
        is("get NULL", x.get(3, 0, 0), LEAST);
        is("count(8) NULL", x.count(8), 1);
        is("get INDEX", x.get(0, 0, -1), LEAST);
        is("count(8) INDEX", x.count(8), 2);
        is("get CAST", x.get(0, 2, -1), LEAST);
        is("count(8) CAST", x.count(8), 3);
        is("get BAD", x.get(4, 0, 0), LEAST);
        is("count(8) stays", x.count(8), 3);
    }

    private static OnlySideways threeSheets() {
        OnlySideways x = new OnlySideways();
        x.sheet(0, 0, 5);
        x.sheet(1, 0, 3);
        x.sheet(2, 1, 5);
        for (int i = 0; i < 5; i++) {
            x.lay(0, 0, i, i + 1);
        }
        return x;
    }

    private static void itemsAre(OnlySideways x, int s, int form, int... want) {
        for (int i = 0; i < want.length; i++) {
            is("item " + i + " of " + s, x.get(s, form, i), want[i]);
        }
    }

    private static void copy() {
        OnlySideways x = threeSheets();
        is("copy", x.copy(0, 3, 1, 1, 2), 1);
        itemsAre(x, 1, 0, 0, 4, 5);
        is("copy onto itself, up", x.copy(0, 0, 0, 1, 4), 1);
        itemsAre(x, 0, 0, 1, 1, 2, 3, 4);
        is("copy onto itself, down", x.copy(0, 1, 0, 0, 4), 1);
        itemsAre(x, 0, 0, 1, 2, 3, 4, 4);
        is("copy none at the ends", x.copy(0, 5, 1, 3, 0), 1);
        is("copy BAD", x.copy(4, 0, 3, 0, 0), BAD);
        is("copy BAD", x.copy(3, 0, -1, 0, 0), BAD);
        is("no FINDING", x.count(8), 0);
        is("copy NULL s", x.copy(3, 0, 0, 0, 0), NULL);
        is("copy NULL t", x.copy(0, 0, 3, 0, 0), NULL);
        is("copy STORE before INDEX", x.copy(0, -1, 2, 0, 1), STORE);
        is("count(8)", x.count(8), 4);
        is("copy too many of s", x.copy(1, 1, 0, 0, 3), INDEX);
        is("copy too many for t", x.copy(0, 0, 1, 0, 4), INDEX);
        is("copy behind s", x.copy(1, 4, 0, 0, 0), INDEX);
        is("copy behind t", x.copy(0, 0, 1, 4, 0), INDEX);
        is("copy i below 0", x.copy(0, -1, 1, 0, 1), INDEX);
        is("copy j below 0", x.copy(0, 0, 1, -1, 1), INDEX);
        is("copy n below 0", x.copy(0, 2, 1, 2, -1), INDEX);
        is("copy far too many", x.copy(0, 1, 1, 1, Integer.MAX_VALUE), INDEX);
        is("copy from far off", x.copy(0, Integer.MAX_VALUE, 1, 0, 1), INDEX);
        itemsAre(x, 0, 0, 1, 2, 3, 4, 4);
        itemsAre(x, 1, 0, 0, 4, 5);
    }

    private static void write() {
        OnlySideways x = Due.with("", "..#;...");
        is("write NULL", x.write(0), NULL);
        is("write(4)", x.write(4), BAD);
        is("write(-1)", x.write(-1), BAD);
        x.sheet(0, 0, 64);
        is("write 64", x.write(0), 64);
        itemsAre(x, 0, 0, 3, 3, NONE, NONE, NONE, NONE, NONE, NONE, 4, 4, 3, NONE);
        is("the last", x.get(0, 0, 63), NONE);
        x.sheet(1, 2, 2);
        is("write 2", x.write(1), 2);
        itemsAre(x, 1, 2, 3, 3);
        x.sheet(2, 1, 0);
        is("write none", x.write(2), 0);
    }

    private static void pairs(OnlySideways x, int... items) {
        x.sheet(0, 1, items.length);
        for (int i = 0; i < items.length; i++) {
            x.lay(0, 1, i, items[i]);
        }
    }

    private static void read() {
        OnlySideways x = Due.with("8000;c000", "");
        is("read NULL", x.read(0), NULL);
        is("count(8)", x.count(8), 1);
        is("read(4)", x.read(4), BAD);
        is("read(-1)", x.read(-1), BAD);
        pairs(x, 0, 125, 2, 500, 3);
        is("read two, the half one is left", x.read(0), 2);
        is("count(4)", x.count(4), 2);
        is("what was read counts", x.fits(1), 1);
        pairs(x, 1, 1, 4, 1, 1, 1);
        is("till a wrong side", x.read(0), 1);
        is("SEEN more", x.count(4), 3);
        pairs(x, 1, 625);
        is("a wrong SIGHT", x.read(0), 0);
        pairs(x, 1, 1, 1, 2, 1, 3, 1, 4, 1, 5, 1, 6);
        is("till it is FULL", x.read(0), 5);
        is("eight SEEN", x.count(4), 8);
        is("FULL reads none", x.read(0), 0);
        pairs(x);
        is("an empty SHEET", x.read(0), 0);
    }

    private static void count() {
        // an L, a lone pair, a square, an S
        OnlySideways x = Due.with("88c0;9000;cc00;8c40", "..#;#..");
        x.seen(0, 1);
        x.seen(0, 2);
        is("count(0)", x.count(0), 4);
        is("count(1)", x.count(1), 4);
        is("count(2)", x.count(2), 19);
        is("count(3)", x.count(3), 7);
        is("count(4)", x.count(4), 2);
        is("count(5)", x.count(5), 14);
        is("count(6)", x.count(6), 3);
        is("count(7)", x.count(7), 2);
        is("count(8)", x.count(8), 0);
        is("count(9)", x.count(9), BAD);
        is("count(-1)", x.count(-1), BAD);
        x.type(0, ';');
        is("count(0) with a FAULT", x.count(0), 0);
        is("count(2) with a FAULT", x.count(2), 20);
        is("count(5) with a FAULT", x.count(5), 0);
        is("count(7) with a FAULT", x.count(7), 0);
    }

    private static void digest() {
        // by hand: 8 counts of 0, 2 faults of NONE, fits 0 0, look NOT NOT, view view sees BAD,
        // watchers 0 NONE NONE, echoes 0 NONE, fog twice as the least long and 2, meet BAD
        long bad = Long.MIN_VALUE + 2;
        long[] told = {0, 0, 0, 0, 0, 0, 0, 0, NONE, NONE, 0, 0, NOT, NOT, BAD, BAD, BAD, 0, NONE, NONE,
            0, NONE, bad, bad, BAD};
        is("digest of a new object", new OnlySideways().digest(), mixed(17, told));
        OnlySideways x = Due.with("8000", "...;...");
        long[] one = {1, 6, 4, 7, 0, 1, 1, 0, NONE, NONE, 0x1000, 125, 500, 500, 125, 1, 4, 1, 1, 1, 1, 1, NOT,
            6, 4, 1, 0, 1, 4, 4, 1, 2, 0, 8, 3, 8, 9, 16, BAD};
        long h = mixed(17, one);
        is("digest of a cell in a house", x.digest(), h);
        is("digest changes nothing", x.digest(), h);
        digestIsByCalls("8000;c000;8800;88c0;0001;f000;8c40;9009", WIDE);
        digestIsByCalls("c000;8000;4480;cc00", "....;....;....;....");
        digestIsByCalls("8000;8000", "..#.....;.....#..;........;....#...;#.......;........");
        digestIsByCalls("4000;8000", "#..#....;...#....;.#......;........;..#.....;........");
        digestIsByCalls("8000;0800;c000;00c0;f99f;6ff6;1248;ffff", "....;..#.;....;#...;....");
        digestIsByCalls("8000;0800;c000;0", "....;..#.;....;#...;...");
    }

    private static void digestIsByCalls(String shapes, String house) {
        OnlySideways x = Due.with(shapes, house);
        is("digest of " + shapes + " in " + house, x.digest(), digestByCalls(x));
        x.seen(0, 125);
        is("digest of " + shapes + " in " + house + ", SEEN", x.digest(), digestByCalls(x));
    }

    private static long digestByCalls(OnlySideways x) {
        long[] ahead = {x.count(0), x.count(1), x.count(2), x.count(3), x.count(4), x.count(5), x.count(6), x.count(7),
            x.fault(0), x.fault(1)};
        long h = mixed(17, ahead);
        for (int it = 0; it < x.count(0); it++) {
            h = mixed(h, x.shape(it, 1), x.sight(it, 0, 0), x.sight(it, 0, 1), x.sight(it, 0, 2), x.sight(it, 0, 3),
                x.form(it, 0), x.form(it, 1), x.form(it, 2), x.kin(it, 0), x.kin(it, 1), x.self(it),
                x.stands(it, 0, 0), x.through(it, 0, 0, 1, 9), x.reach(it, 0, 0));
        }
        return mixed(h, x.fits(0), x.fits(1), x.look(0), x.look(1), x.view(0), x.view(9), x.sees(0, 2),
            x.watchers(0), x.watchers(1), x.watchers(2), x.echoes(1, NONE, NONE, NONE, 0),
            x.echoes(1, NONE, NONE, NONE, 1), x.fog(0, 2, 4, 0), x.fog(0, 2, 4, 1), x.meet(0, 0, 0, 1, 0, 2));
    }

    private static long mixed(long before, long... told) {
        long h = before;
        for (long each : told) {
            h = 31 * h + each;
        }
        return h;
    }

    /** None of these may throw, and all are refused. */
    private static void wrongNumbers() {
        OnlySideways x = Due.with("8000;c000", WIDE);
        for (int n : OUTSIDE) {
            is("type(" + n + ")", x.type(n, 0), BAD);
            is("wipe(" + n + ")", x.wipe(n), BAD);
            is("undo(" + n + ")", x.undo(n), BAD);
            is("fault(" + n + ")", x.fault(n), BAD);
            is("shape(" + n + ")", x.shape(n, 0), BAD);
            is("shape t " + n, x.shape(0, n), BAD);
            is("made what " + n, x.made(1, n), BAD);
            is("sight(" + n + ")", x.sight(n, 0, 0), BAD);
            is("sight t " + n, x.sight(0, n, 0), BAD);
            is("sight side " + n, x.sight(0, 0, n), BAD);
            is("form(" + n + ")", x.form(n, 0), BAD);
            is("form what " + n, x.form(0, n), BAD);
            is("kin(" + n + ")", x.kin(n, 0), BAD);
            is("self(" + n + ")", x.self(n), BAD);
            is("stands(" + n + ")", x.stands(n, 0, 0), BAD);
            is("stands cell " + n, x.stands(0, 0, n), BAD);
            is("reach t " + n, x.reach(0, n, 0), BAD);
            is("through to " + n, x.through(0, 0, 0, 0, n), BAD);
            is("meet b " + n, x.meet(0, 0, 0, n, 0, 0), BAD);
            is("seen side " + n, x.seen(n, 0), BAD);
            is("look what " + n, x.look(n), BAD);
            is("view(" + n + ")", x.view(n), BAD);
            is("sees to " + n, x.sees(0, n), BAD);
            is("watchers(" + n + ")", x.watchers(n), BAD);
            is("fog from " + n, x.fog(n, 0, 0, 0), Long.MIN_VALUE + 2);
            is("sheet(" + n + ")", x.sheet(n, 0, 0), BAD);
            is("copy to " + n, x.copy(0, 0, n, 0, 0), BAD);
            is("write(" + n + ")", x.write(n), BAD);
            is("read(" + n + ")", x.read(n), BAD);
            is("count(" + n + ")", x.count(n), BAD);
        }
    }

    private static void refusalsChangeNothing() {
        OnlySideways x = Due.with("8000;c000", WIDE);
        x.seen(0, 125);
        x.sheet(0, 2, 2);
        x.lay(0, 2, 0, 77);
        long before = x.digest();
        x.type(0, 999);
        x.type(1, '.');
        x.wipe(9);
        x.seen(5, 5);
        x.sheet(0, 9, 1);
        x.sheet(0, 0, 99);
        x.sheet(0, 0, -9);
        x.lay(0, 1, 0, 5);
        x.lay(0, 2, 2, 5);
        x.copy(0, 0, 0, 1, 2);
        x.read(1);
        x.write(1);
        x.lose(1);
        is("digest", x.digest(), before);
        is("the item", x.get(0, 2, 0), 77);
        is("the other item", x.get(0, 2, 1), 0);
    }
}
