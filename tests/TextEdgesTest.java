/** Promises 1 to 5, and what the document says of texts and of their FAULTS: each sentence at its edges. */
public final class TextEdgesTest {
    private static final int NONE = -1, BAD = -2, NOT = -3, FULL = -4, NULL = -11;
    private static final int LEAST = Integer.MIN_VALUE;
    private static final int[] NO_TEXTS = {-1, 2, Integer.MIN_VALUE, Integer.MAX_VALUE};
    private static final int[] LIMITS = {40, 71};
    private static final String EIGHT = "8000;4000;2000;1000;0800;0400;0200;0001";
    private static final Due due = new Due();

    public static void main(String[] args) {
        newObject();
        calls();
        type();
        fullTexts();
        wipe();
        undo();
        fault();
        howManyShapes();
        signsBetweenShapes();
        figures();
        firstFault();
        emptyAndNotEnded();
        shapeWithoutCell();
        ninthShape();
        housesOfAllSizes();
        houseNotEnded();
        signsOfHouse();
        ninthColumn();
        byteMore();
        tooSoon();
        ninthRow();
        shapesWithFault();
        houseWithFault();
        nothingStaysBehind();
        due.end();
    }

    private static void is(String call, long got, long want) {
        due.is(call, got, want);
    }

    private static void faultIs(int text, String bytes, int want) {
        OnlySideways x = text == 0 ? Due.with(bytes, "") : Due.with("", bytes);
        is("fault of '" + bytes + "'", x.fault(text), want);
        is("bytes of '" + bytes + "'", x.count(2 + text), bytes.length());
        if (want != NONE) {
            is("SHAPES or FREE CELLS of '" + bytes + "'", x.count(text), 0);
        }
    }

    private static void newObject() {
        due.says("Empty texts; all SHEETS are LOST.");
        for (int text = 0; text < 2; text++) {
            OnlySideways x = new OnlySideways();
            is("undo(" + text + ")", x.undo(text), NOT);
            is("wipe(" + text + ")", x.wipe(text), 0);
            is("fault(" + text + ")", x.fault(text), NONE);
            is("count(" + (2 + text) + ")", x.count(2 + text), 0);
        }
        for (int s = 0; s < 4; s++) {
            for (int form = 0; form < 3; form++) {
                OnlySideways x = new OnlySideways();
                is("get(" + s + ", " + form + ", 0)", x.get(s, form, 0), LEAST);
                is("count(8)", x.count(8), 1);
            }
            is("lose(" + s + ")", new OnlySideways().lose(s), NULL);
        }
    }

    private static void calls() {
        due.says("An object is used for at most 512 calls after it has been made");
        OnlySideways x = Due.with("8000", "..");
        for (int i = 0; i < 252; i++) {
            is("type", x.type(1, ';'), 3);
            is("undo", x.undo(1), 2);
        }
        is("the 511th", x.count(0), 1);
        is("the 512th", x.through(0, 0, 0, 0, 1), 1);
    }

    private static void type() {
        due.says("A byte (0 to 255) comes behind a text: how many. BAD; FULL.");
        for (int text = 0; text < 2; text++) {
            OnlySideways x = new OnlySideways();
            is("type -1", x.type(text, -1), BAD);
            is("type 256", x.type(text, 256), BAD);
            is("type the least int", x.type(text, LEAST), BAD);
            is("type the greatest int", x.type(text, Integer.MAX_VALUE), BAD);
            is("none came", x.count(2 + text), 0);
            is("type 0", x.type(text, 0), 1);
            is("type 255", x.type(text, 255), 2);
            is("the other text has none", x.count(3 - text), 0);
        }
        for (int text : NO_TEXTS) {
            is("type to text " + text, new OnlySideways().type(text, '1'), BAD);
        }
        OnlySideways x = Due.with("123", "");
        is("type behind", x.type(0, '4'), 4);
        is("it is the last", x.shape(0, 0), 0x1234);
    }

    private static OnlySideways filled(int text) {
        OnlySideways x = new OnlySideways();
        for (int i = 1; i <= LIMITS[text]; i++) {
            is("type the " + i + ". byte to text " + text, x.type(text, '.'), i);
        }
        return x;
    }

    private static void fullTexts() {
        due.says("SHAPES are a text of up to 40 bytes (text 0)");
        fullText(0);
        due.says("THE HOUSE (text 1, up to 71 bytes)");
        fullText(1);
    }

    private static void fullText(int text) {
        int limit = LIMITS[text];
        OnlySideways x = filled(text);
        is("one more", x.type(text, '.'), FULL);
        is("one more, 0", x.type(text, 0), FULL);
        is("one more, 255", x.type(text, 255), FULL);
        is("BAD before FULL", x.type(text, 256), BAD);
        is("BAD before FULL", x.type(text, -1), BAD);
        is("the bytes", x.count(2 + text), limit);
        is("the other text is not full", x.type(1 - text, '.'), 1);
        is("undo", x.undo(text), limit - 1);
        is("there is room for one", x.type(text, '.'), limit);
        is("and for no other", x.type(text, '.'), FULL);
        is("wipe", x.wipe(text), limit);
        is("there is room again", x.type(text, '.'), 1);
    }

    private static void wipe() {
        due.says("A text is empty: how many bytes it had. BAD.");
        for (int text : NO_TEXTS) {
            is("wipe(" + text + ")", Due.with("8000", ".").wipe(text), BAD);
        }
        for (int text = 0; text < 2; text++) {
            OnlySideways x = filled(text);
            x.type(1 - text, 'x');
            is("wipe a full text", x.wipe(text), LIMITS[text]);
            is("count", x.count(2 + text), 0);
            is("fault", x.fault(text), NONE);
            is("wipe it again", x.wipe(text), 0);
            is("undo has none", x.undo(text), NOT);
            is("the other text stays", x.wipe(1 - text), 1);
        }
    }

    private static void undo() {
        due.says("The last byte of a text is undone: how many are left. BAD; NOT: it is empty.");
        for (int text : NO_TEXTS) {
            is("undo(" + text + ")", new OnlySideways().undo(text), BAD);
            is("undo(" + text + ")", Due.with("8000", ".").undo(text), BAD);
        }
        for (int text = 0; text < 2; text++) {
            OnlySideways x = filled(text);
            for (int left = LIMITS[text] - 1; left >= 0; left--) {
                is("undo till " + left, x.undo(text), left);
            }
            is("undo of an empty text", x.undo(text), NOT);
            is("undo again", x.undo(text), NOT);
            is("fault", x.fault(text), NONE);
            is("count", x.count(2 + text), 0);
            is("type", x.type(text, '.'), 1);
        }
        OnlySideways x = Due.with("8000;4000", "..;##");
        x.undo(0);
        x.type(0, '1');
        is("the last one, not another", x.shape(1, 0), 0x4001);
    }

    private static void fault() {
        due.says("The FAULT of a text; NONE. BAD.");
        for (int text : NO_TEXTS) {
            is("fault(" + text + ")", Due.with("x", "x").fault(text), BAD);
        }
        OnlySideways x = Due.with("80x", "..;x");
        is("of text 0", x.fault(0), 2);
        is("of text 1", x.fault(1), 3);
        x.wipe(1);
        is("of text 0 still", x.fault(0), 2);
        is("of text 1 no more", x.fault(1), NONE);
    }

    private static void howManyShapes() {
        due.says("8 at most (0 on)");
        for (int many = 0; many <= 8; many++) {
            OnlySideways x = Due.with(EIGHT.substring(0, Math.max(0, 5 * many - 1)), "");
            is("count(0)", x.count(0), many);
            for (int i = 0; i < many; i++) {
                int want = Integer.parseInt(EIGHT.substring(5 * i, 5 * i + 4), 16);
                is("SHAPE " + i + " of " + many, x.shape(i, 0), want);
            }
            is("SHAPE -1 of " + many, x.shape(-1, 0), BAD);
            is("SHAPE " + many + " of " + many, x.shape(many, 0), BAD);
        }
    }

    private static void signsBetweenShapes() {
        due.says("with ; between them");
        faultIs(0, ";", 0);
        faultIs(0, ";8000", 0);
        faultIs(0, "8000;;4000", 5);
        faultIs(0, "80004000", 4);
        for (int b = 0; b < 256; b++) {
            faultIs(0, "8000" + (char) b + "4000", b == ';' ? NONE : 4);
            faultIs(0, EIGHT.substring(0, 34) + (char) b + "0001", b == ';' ? NONE : 34);
        }
    }

    private static void figures() {
        due.says("four figures each, 0 to 9 or a to f (10 to 15), for rows 0 to 3 from above");
        String known = "0123456789abcdef";
        for (int place = 0; place < 4; place++) {
            for (int b = 0; b < 256; b++) {
                String text = "1111".substring(0, place) + (char) b + "1111".substring(place + 1);
                int value = known.indexOf(b);
                faultIs(0, text, value >= 0 ? NONE : place);
                int weight = 1 << 4 * (3 - place);
                int want = value >= 0 ? 0x1111 + (value - 1) * weight : BAD;
                is("SHAPE '" + text + "'", Due.with(text, "").shape(0, 0), want);
            }
        }
        faultIs(0, "111", 3);
        faultIs(0, "11111", 4);
        faultIs(0, "8000;111;8000", 8);
        due.says("8 the cell in column 0, 4, 2, 1 that in column 3.");
        for (int column = 0; column < 4; column++) {
            int[] figure = {8, 4, 2, 1};
            OnlySideways x = Due.with(figure[column] + "000", "");
            is("seen from the left", x.sight(0, 0, 3), 125 * (column + 1));
            is("number", x.shape(0, 0), 4096 * figure[column]);
        }
    }

    private static void firstFault() {
        due.says("The FAULT of a text is the place of the first byte with which it cannot go on");
        faultIs(0, "x", 0);
        faultIs(0, "8x0y", 1);
        faultIs(0, "x000;0000", 0);
        faultIs(0, "0000;x", 3);
        faultIs(0, "8000;0000;0000", 8);
        faultIs(0, "8000,4000;000x", 4);
        faultIs(1, "x", 0);
        faultIs(1, "x.;y.", 0);
        faultIs(1, "..;.x;.", 4);
        faultIs(1, "..;...;.", 5);
        faultIs(1, "..;.;x", 4);
        OnlySideways x = Due.with("8x", "");
        for (int i = 2; i < 40; i++) {
            x.type(0, 'x');
            is("more faults behind it", x.fault(0), 1);
        }
    }

    private static void emptyAndNotEnded() {
        due.says("(an empty text is well; of one that is not ended, its end)");
        faultIs(0, "", NONE);
        faultIs(1, "", NONE);
        OnlySideways x = Due.with("x", "x");
        x.undo(0);
        x.wipe(1);
        is("undone", x.fault(0), NONE);
        is("wiped", x.fault(1), NONE);
        for (int n = 1; n <= EIGHT.length(); n++) {
            faultIs(0, EIGHT.substring(0, n), n % 5 == 4 ? NONE : n);
        }
    }

    private static void shapeWithoutCell() {
        due.says("here also of the fourth figure of a SHAPE without a cell");
        faultIs(0, "0", 1);
        faultIs(0, "00", 2);
        faultIs(0, "000", 3);
        faultIs(0, "0000", 3);
        faultIs(0, "00000", 3);
        faultIs(0, "0000;", 3);
        faultIs(0, "0000x", 3);
        for (int i = 0; i < 8; i++) {
            String text = EIGHT.substring(0, 5 * i) + "0000" + EIGHT.substring(5 * i + 4);
            faultIs(0, text, 5 * i + 3);
            faultIs(0, text.substring(0, 5 * i + 4), 5 * i + 3);
        }
        for (int i = 0; i < 16; i++) {
            String one = Integer.toHexString(0x10000 + (1 << i)).substring(1);
            faultIs(0, one, NONE);
            faultIs(0, "8000;" + one, NONE);
        }
    }

    private static void ninthShape() {
        due.says("or of the first byte of a ninth.");
        faultIs(0, EIGHT, NONE);
        faultIs(0, EIGHT + ";", 40);
        OnlySideways x = Due.with(EIGHT + ";", "");
        is("its first byte", x.type(0, '8'), FULL);
        is("fault", x.fault(0), 40);
        is("undo", x.undo(0), 39);
        is("eight again", x.count(0), 8);
        is("fault", x.fault(0), NONE);
        for (int b = 0; b < 256; b++) {
            faultIs(0, EIGHT + (char) b, b == ';' ? 40 : 39);
        }
    }

    private static void housesOfAllSizes() {
        due.says("is up to 8 rows with ; between them, all as wide as the first (1 to 8)");
        for (int rows = 1; rows <= 8; rows++) {
            for (int width = 1; width <= 8; width++) {
                String house = Due.house(rows, width);
                faultIs(1, house, NONE);
                OnlySideways x = Due.with("", house);
                is("FREE CELLS of " + house, x.count(1), rows * width);
                for (int cell = 0; cell < 64; cell++) {
                    boolean inside = cell / 8 < rows && cell % 8 < width;
                    is("view(" + cell + ") in " + house, x.view(cell), inside ? rows + width - 1 : BAD);
                }
            }
        }
    }

    private static void houseNotEnded() {
        due.says("(an empty text is well; of one that is not ended, its end)");
        for (int width = 1; width <= 8; width++) {
            String house = Due.house(8, width);
            for (int n = 1; n <= house.length(); n++) {
                boolean ended = n <= width || n % (width + 1) == width;
                faultIs(1, house.substring(0, n), ended ? NONE : n);
            }
        }
    }

    private static void signsOfHouse() {
        due.says(". where it is free, # a wall; all else is wall.");
        for (int place = 0; place < 7; place++) {
            for (int b = 0; b < 256; b++) {
                String house = "...;...".substring(0, place) + (char) b + "...;...".substring(place + 1);
                if (b == ';') {
                    int[] want = {0, 5, 3, NONE, 4, 5, 6};
                    faultIs(1, house, want[place]);
                } else {
                    faultIs(1, house, b == '.' || b == '#' ? NONE : place);
                }
            }
        }
        OnlySideways x = Due.with("", ".#;#.");
        is("FREE", x.view(0), 1);
        is("a wall", x.view(1), BAD);
        is("wall behind the width", x.view(2), BAD);
        is("wall", x.view(8), BAD);
        is("FREE", x.view(9), 1);
        is("wall below", x.view(16), BAD);
        is("two FREE CELLS", x.count(1), 2);
        is("walls alone are well", Due.with("", "##;##").fault(1), NONE);
        is("walls alone", Due.with("", "##;##").count(1), 0);
    }

    private static void ninthColumn() {
        due.says("Its FAULT is also of a ninth column");
        faultIs(1, "........", NONE);
        faultIs(1, "########", NONE);
        for (int b = 0; b < 256; b++) {
            faultIs(1, "........" + (char) b, b == ';' ? 9 : 8);
            faultIs(1, "........;........" + (char) b, b == ';' ? 18 : 17);
        }
        faultIs(1, "..........", 8);
    }

    private static void byteMore() {
        due.says("of a byte more than the first row has");
        for (int width = 1; width <= 7; width++) {
            for (int rows = 2; rows <= 8; rows++) {
                String house = Due.house(rows, width);
                faultIs(1, house + ".", house.length());
                faultIs(1, house + "#", house.length());
                faultIs(1, house + "x", house.length());
            }
            faultIs(1, Due.house(1, width) + ".", NONE);
        }
    }

    private static void tooSoon() {
        due.says("of a ; or the end that comes too soon");
        faultIs(1, ";", 0);
        faultIs(1, ";.", 0);
        for (int width = 1; width <= 8; width++) {
            for (int rows = 1; rows < 8; rows++) {
                for (int k = 0; k < width; k++) {
                    String house = Due.house(rows, width) + ";" + ".".repeat(k);
                    faultIs(1, house, house.length());
                    faultIs(1, house + ";", house.length());
                }
            }
        }
    }

    private static void ninthRow() {
        due.says("of the first byte of a ninth row.");
        for (int width = 1; width <= 7; width++) {
            String house = Due.house(8, width);
            int place = 8 * (width + 1);
            faultIs(1, house, NONE);
            faultIs(1, house + ";", place);
            for (char b : ".#;x0".toCharArray()) {
                faultIs(1, house + ";" + b, place);
                faultIs(1, house + ";" + b + ".", place);
            }
            faultIs(1, house + ".", place - 1);
        }
        OnlySideways x = Due.with("", Due.house(8, 8));
        is("no ; behind 71 bytes", x.type(1, ';'), FULL);
        is("it is well", x.fault(1), NONE);
        is("64 FREE CELLS", x.count(1), 64);
    }

    private static void shapesWithFault() {
        due.says("With a FAULT a text is as if it was empty.");
        OnlySideways x = Due.with("8000;88c0", "...;...");
        x.type(0, ';');
        for (int what : new int[] {0, 5, 6, 7}) {
            is("count(" + what + ")", x.count(what), 0);
        }
        is("shape", x.shape(0, 0), BAD);
        is("sight", x.sight(0, 0, 0), BAD);
        is("form", x.form(0, 0), BAD);
        is("kin", x.kin(0, 0), BAD);
        is("self", x.self(0), BAD);
        is("stands", x.stands(0, 0, 0), BAD);
        is("through", x.through(0, 0, 0, 0, 1), BAD);
        is("reach", x.reach(0, 0, 0), BAD);
        is("meet", x.meet(0, 0, 0, 0, 0, 1), BAD);
        is("fits(0)", x.fits(0), 0);
        is("fits(1)", x.fits(1), 0);
        is("look", x.look(0), NOT);
        is("the house stays", x.count(1), 6);
        is("its bytes are there", x.count(2), 10);
        is("undo", x.undo(0), 9);
        is("all SHAPES again", x.count(0), 2);
        is("shape again", x.shape(1, 0), 0x88c0);
        is("fits again", x.fits(0), 8);
    }

    private static void houseWithFault() {
        due.says("With a FAULT a text is as if it was empty.");
        OnlySideways x = Due.with("8000", "...;...");
        x.type(1, ';');
        x.sheet(0, 0, 1);
        is("count(1)", x.count(1), 0);
        is("stands", x.stands(0, 0, 0), 0);
        is("through", x.through(0, 0, 0, 0, 1), NOT);
        is("reach", x.reach(0, 0, 0), NOT);
        is("meet", x.meet(0, 0, 0, 0, 0, 1), 0);
        is("view", x.view(0), BAD);
        is("sees", x.sees(0, 1), BAD);
        is("watchers(0)", x.watchers(0), 0);
        is("watchers(1)", x.watchers(1), NONE);
        is("watchers(2)", x.watchers(2), NONE);
        is("echoes(0)", x.echoes(NONE, NONE, NONE, NONE, 0), 0);
        is("echoes(1)", x.echoes(NONE, NONE, NONE, NONE, 1), NONE);
        is("fog", x.fog(0, 1, 0, 0), Long.MIN_VALUE + 2);
        is("write", x.write(0), 1);
        is("written", x.get(0, 0, 0), NONE);
        is("the SHAPES stay", x.count(0), 1);
        is("its bytes are there", x.count(3), 8);
        is("undo", x.undo(1), 7);
        is("FREE CELLS again", x.count(1), 6);
        is("view again", x.view(0), 4);
        is("through again", x.through(0, 0, 0, 0, 1), 1);
    }

    /** A text that was longer once, or another one, is as if it was typed anew. */
    private static void nothingStaysBehind() {
        due.says("The last byte of a text is undone: how many are left.");
        for (int left = 0; left < 40; left++) {
            int keep = left;
            String text = "88c0;88c0;88c0;8400;88c0;88c0;88c0;88c0;".substring(0, keep);
            due.holds("undone till " + keep, State.after(x -> {
                Due.typeAll(x, 0, "88c0;88c0;88c0;8400;88c0;88c0;88c0;88c0;");
                for (int i = 40; i > keep; i--) {
                    x.undo(0);
                }
            }).equals(State.after(x -> Due.typeAll(x, 0, text))));
        }
        String house = Due.house(8, 8);
        for (int left = 0; left < 71; left++) {
            int keep = left;
            due.holds("undone till " + keep, State.after(x -> {
                Due.typeAll(x, 1, house);
                for (int i = 71; i > keep; i--) {
                    x.undo(1);
                }
            }).equals(State.after(x -> Due.typeAll(x, 1, house.substring(0, keep)))));
        }
        due.says("A text is empty: how many bytes it had.");
        due.holds("wiped and typed anew", State.after(x -> {
            Due.typeAll(x, 0, EIGHT);
            Due.typeAll(x, 1, house);
            x.wipe(0);
            x.wipe(1);
            Due.typeAll(x, 0, "8000");
            Due.typeAll(x, 1, "..;..");
        }).equals(State.after(x -> {
            Due.typeAll(x, 0, "8000");
            Due.typeAll(x, 1, "..;..");
        })));
    }
}
