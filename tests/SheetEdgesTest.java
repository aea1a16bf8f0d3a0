/** Promises 25 to 31: SHEETS, their FORMS and the FINDINGS: each sentence at its edges. */
public final class SheetEdgesTest {
    private static final int NONE = -1, BAD = -2;
    private static final int NULL = -11, INDEX = -12, CAST = -13, STORE = -14, SIZE = -15;
    private static final int LEAST = Integer.MIN_VALUE, MOST = Integer.MAX_VALUE;
    private static final int[] NO_SHEETS = {-1, 4, LEAST, MOST};
    private static final int[] NO_FORMS = {-1, 3, LEAST, MOST};
    private static final String WIDE = Due.house(8, 8);
    private static final Due due = new Due();

    public static void main(String[] args) {
        sheetsAndForms();
        sheet();
        sheetRefusals();
        lose();
        lay();
        layRefusals();
        get();
        getRefusals();
        copy();
        copyOntoItself();
        copyIndex();
        copyRefusals();
        write();
        read();
        readTillFull();
        readTillOneMayNotBe();
        findings();
        due.end();
    }

    private static void is(String call, long got, long want) {
        due.is(call, got, want);
    }

    private static void itemsAre(OnlySideways x, int s, int form, int... want) {
        for (int i = 0; i < want.length; i++) {
            is("item " + i + " of SHEET " + s, x.get(s, form, i), want[i]);
        }
    }

    /** A SHEET 0 of this FORM with these items. */
    private static OnlySideways laid(int form, int... items) {
        OnlySideways x = new OnlySideways();
        lay(x, 0, form, items);
        return x;
    }

    private static void lay(OnlySideways x, int s, int form, int... items) {
        x.sheet(s, form, items.length);
        for (int i = 0; i < items.length; i++) {
            is("lay", x.lay(s, form, i, items[i]), 1);
        }
    }

    private static void sheetsAndForms() {
        due.says("SHEETS 0 .. 3 are LOST (at first) or a row of a FORM: 0 bytes, 1 shorts, 2 ints, of 0 to 64 items (0 at first).");
        for (int s = 0; s < 4; s++) {
            for (int form = 0; form < 3; form++) {
                OnlySideways x = new OnlySideways();
                is("LOST at first", x.lose(s), NULL);
                is("64 items", x.sheet(s, form, 64), 64);
                for (int i = 0; i < 64; i++) {
                    is("0 at first: item " + i, x.get(s, form, i), 0);
                }
                is("no item 64", x.lay(s, form, 64, 1), INDEX);
                is("no item -1", x.lay(s, form, -1, 1), INDEX);
                is("0 items", x.sheet(s, form, 0), 0);
                is("no item 0", x.lay(s, form, 0, 1), INDEX);
                is("1 item", x.sheet(s, form, 1), 1);
                is("item 0", x.lay(s, form, 0, 1), 1);
                is("no item 1", x.lay(s, form, 1, 1), INDEX);
                for (int other = 0; other < 4; other++) {
                    is("the others stay LOST", x.write(other), other == s ? 1 : NULL);
                }
            }
        }
    }

    private static void sheet() {
        due.says("A SHEET is a new row of a FORM with n items: n. BAD: SHEET, FORM, above 64; SIZE.");
        OnlySideways x = laid(0, 1, 2, 3);
        is("as many, of the same FORM", x.sheet(0, 0, 3), 3);
        itemsAre(x, 0, 0, 0, 0, 0);
        x.lay(0, 0, 2, 9);
        is("fewer", x.sheet(0, 0, 2), 2);
        is("the third is gone", x.lay(0, 0, 2, 1), INDEX);
        is("more", x.sheet(0, 0, 3), 3);
        is("a new one is 0", x.get(0, 0, 2), 0);
        is("another FORM", x.sheet(0, 2, 3), 3);
        is("it is no more of bytes", x.lay(0, 0, 0, 1), CAST);
        is("it is of ints", x.lay(0, 2, 0, 1), 1);
        x.lose(0);
        is("a LOST one anew", x.sheet(0, 1, 1), 1);
        is("0 again", x.get(0, 1, 0), 0);
    }

    private static void sheetRefusals() {
        due.says("BAD: SHEET, FORM, above 64; SIZE.");
        OnlySideways x = laid(1, 7, 8);
        for (int s : NO_SHEETS) {
            is("SHEET " + s, x.sheet(s, 0, 0), BAD);
            is("BAD before SIZE: SHEET " + s, x.sheet(s, 0, -1), BAD);
        }
        for (int form : NO_FORMS) {
            is("FORM " + form, x.sheet(0, form, 0), BAD);
            is("BAD before SIZE: FORM " + form, x.sheet(0, form, -1), BAD);
        }
        is("65 items", x.sheet(0, 0, 65), BAD);
        is("far too many", x.sheet(0, 0, MOST), BAD);
        is("no FINDING so far", x.count(8), 0);
        is("-1 items", x.sheet(0, 0, -1), SIZE);
        is("the number of it", x.count(8), 5);
        is("far too few", x.sheet(0, 0, LEAST), SIZE);
        is("of a LOST one too", x.sheet(3, 0, -1), SIZE);
        is("it stays LOST", x.lose(3), NULL);
        itemsAre(x, 0, 1, 7, 8);
        is("as many as before", x.lose(0), 2);
    }

    private static void lose() {
        due.says("It is LOST: how many items it had. BAD; NULL.");
        for (int many : new int[] {0, 1, 63, 64}) {
            OnlySideways x = new OnlySideways();
            x.sheet(3, 2, many);
            is("lose " + many, x.lose(3), many);
            is("no FINDING", x.count(8), 0);
            is("lose again", x.lose(3), NULL);
            is("the number of it", x.count(8), 1);
            is("lay", x.lay(3, 2, 0, 0), NULL);
            is("write", x.write(3), NULL);
            is("read", x.read(3), NULL);
        }
        OnlySideways x = new OnlySideways();
        for (int s : NO_SHEETS) {
            is("lose(" + s + ")", x.lose(s), BAD);
        }
        is("BAD is no FINDING", x.count(8), 0);
    }

    private static void layIs(int form, int v, int want) {
        OnlySideways x = laid(form, v);
        is("item of FORM " + form + " laid as " + v, x.get(0, form, 0), want);
    }

    private static void lay() {
        due.says("Item i, treated as of a FORM, becomes v (the lowest bits that it has): 1.");
        int[] kept = {0, 1, -1, 127, -128};
        for (int v : kept) {
            for (int form = 0; form < 3; form++) {
                layIs(form, v, v);
            }
        }
        layIs(0, 128, -128);
        layIs(0, 255, -1);
        layIs(0, 256, 0);
        layIs(0, -129, 127);
        layIs(0, 0x12345678, 0x78);
        layIs(0, MOST, -1);
        layIs(0, LEAST, 0);
        layIs(1, 128, 128);
        layIs(1, 32767, 32767);
        layIs(1, -32768, -32768);
        layIs(1, 32768, -32768);
        layIs(1, 65535, -1);
        layIs(1, 65536, 0);
        layIs(1, -32769, 32767);
        layIs(1, 0x12345678, 0x5678);
        layIs(1, MOST, -1);
        layIs(1, LEAST, 0);
        layIs(2, 32768, 32768);
        layIs(2, 0x12345678, 0x12345678);
        layIs(2, MOST, MOST);
        layIs(2, LEAST, LEAST);
        OnlySideways x = new OnlySideways();
        x.sheet(0, 0, 64);
        is("the first item", x.lay(0, 0, 0, 1), 1);
        is("the last item", x.lay(0, 0, 63, 2), 1);
        is("the one behind the first stays", x.get(0, 0, 1), 0);
        is("the one ahead of the last stays", x.get(0, 0, 62), 0);
        itemsAre(x, 0, 0, 1);
        is("the last", x.get(0, 0, 63), 2);
    }

    private static void layRefusals() {
        due.says("BAD; NULL; CAST; INDEX.");
        OnlySideways x = laid(1, 5, 6);
        for (int s : NO_SHEETS) {
            is("SHEET " + s, x.lay(s, 1, 0, 9), BAD);
        }
        for (int form : NO_FORMS) {
            is("FORM " + form, x.lay(0, form, 0, 9), BAD);
            is("BAD before NULL: FORM " + form, x.lay(3, form, 0, 9), BAD);
            is("BAD before INDEX: FORM " + form, x.lay(0, form, 2, 9), BAD);
        }
        is("no FINDING by BAD", x.count(8), 0);
        is("NULL before CAST and INDEX", x.lay(3, 0, -1, 9), NULL);
        is("its number", x.count(8), 1);
        is("CAST", x.lay(0, 0, 0, 9), CAST);
        is("CAST to a wider one", x.lay(0, 2, 0, 9), CAST);
        is("CAST before INDEX", x.lay(0, 0, 2, 9), CAST);
        is("CAST before INDEX", x.lay(0, 2, -1, 9), CAST);
        is("its number", x.count(8), 3);
        for (int i : new int[] {-1, 2, 64, LEAST, MOST}) {
            is("INDEX " + i, x.lay(0, 1, i, 9), INDEX);
        }
        is("its number", x.count(8), 2);
        itemsAre(x, 0, 1, 5, 6);
    }

    private static void get() {
        due.says("Item i of it.");
        for (int form = 0; form < 3; form++) {
            OnlySideways x = new OnlySideways();
            x.sheet(2, form, 64);
            for (int i = 0; i < 64; i++) {
                x.lay(2, form, i, i - 32);
            }
            for (int i = 0; i < 64; i++) {
                is("item " + i, x.get(2, form, i), i - 32);
            }
            is("no FINDING", x.count(8), 0);
        }
        OnlySideways x = laid(2, LEAST);
        is("an item that is the least int", x.get(0, 2, 0), LEAST);
        is("it is no FINDING", x.count(8), 0);
    }

    private static void getRefusals() {
        due.says("BAD: the least int; so are NULL, CAST, INDEX (count() 8 tells).");
        OnlySideways x = laid(1, 5, 6);
        getRefused(x, NO_SHEETS[0], 1, 0, 0);
        for (int s : NO_SHEETS) {
            getRefused(x, s, 1, 0, 0);
        }
        for (int form : NO_FORMS) {
            getRefused(x, 0, form, 0, 0);
            getRefused(x, 3, form, 0, 0);
            getRefused(x, 0, form, 2, 0);
        }
        getRefused(x, 3, 1, 0, 1);
        getRefused(x, 0, 0, 0, 3);
        getRefused(x, 0, 2, 1, 3);
        getRefused(x, 0, 1, 2, 2);
        getRefused(x, 3, 0, -1, 1);
        getRefused(x, 0, 1, -1, 2);
        getRefused(x, 0, 0, -1, 3);
        getRefused(x, 0, 1, 64, 2);
        getRefused(x, 0, 2, 2, 3);
        getRefused(x, 0, 1, LEAST, 2);
        getRefused(x, 3, 2, MOST, 1);
        getRefused(x, 0, 1, MOST, 2);
        getRefused(x, 4, 1, 0, 2);
        getRefused(x, 0, 3, 0, 2);
        itemsAre(x, 0, 1, 5, 6);
        is("the latest stays", x.count(8), 2);
    }

    private static void getRefused(OnlySideways x, int s, int form, int i, int number) {
        String call = "get(" + s + ", " + form + ", " + i + ")";
        is(call, x.get(s, form, i), LEAST);
        is("count(8) behind " + call, x.count(8), number);
    }

    private static void copy() {
        due.says("n items of SHEET s, from i on, come to SHEET t (perhaps s, as they were), from j on: 1.");
        for (int form = 0; form < 3; form++) {
            OnlySideways x = laid(form, 1, 2, 3, 4, 5);
            lay(x, 1, form, 11, 12, 13);
            is("none", x.copy(0, 0, 1, 0, 0), 1);
            is("none, from the ends", x.copy(0, 5, 1, 3, 0), 1);
            itemsAre(x, 1, form, 11, 12, 13);
            is("one, the last to the last", x.copy(0, 4, 1, 2, 1), 1);
            itemsAre(x, 1, form, 11, 12, 5);
            is("one, the first to the first", x.copy(0, 0, 1, 0, 1), 1);
            itemsAre(x, 1, form, 1, 12, 5);
            is("as many as there are", x.copy(1, 0, 0, 2, 3), 1);
            itemsAre(x, 0, form, 1, 2, 1, 12, 5);
            itemsAre(x, 1, form, 1, 12, 5);
        }
        OnlySideways x = new OnlySideways();
        x.sheet(0, 0, 64);
        x.sheet(3, 0, 64);
        x.lay(0, 0, 63, 9);
        is("all 64", x.copy(0, 0, 3, 0, 64), 1);
        is("the last", x.get(3, 0, 63), 9);
        is("the first", x.get(3, 0, 0), 0);
        x.sheet(1, 0, 0);
        is("none of none", x.copy(1, 0, 1, 0, 0), 1);
        is("none of none to another", x.copy(1, 0, 0, 64, 0), 1);
        is("a row laid anew is not the one copied from", x.lay(0, 0, 63, 1), 1);
        is("the copy stays", x.get(3, 0, 63), 9);
    }

    private static void copyOntoItself() {
        due.says("(perhaps s, as they were)");
        OnlySideways up = laid(2, 1, 2, 3, 4, 5);
        is("up by one", up.copy(0, 0, 0, 1, 4), 1);
        itemsAre(up, 0, 2, 1, 1, 2, 3, 4);
        OnlySideways down = laid(2, 1, 2, 3, 4, 5);
        is("down by one", down.copy(0, 1, 0, 0, 4), 1);
        itemsAre(down, 0, 2, 2, 3, 4, 5, 5);
        OnlySideways same = laid(2, 1, 2, 3, 4, 5);
        is("in place", same.copy(0, 0, 0, 0, 5), 1);
        itemsAre(same, 0, 2, 1, 2, 3, 4, 5);
        OnlySideways apart = laid(2, 1, 2, 3, 4, 5);
        is("not over one another", apart.copy(0, 0, 0, 3, 2), 1);
        itemsAre(apart, 0, 2, 1, 2, 3, 1, 2);
    }

    private static void copyIndex() {
        due.says("INDEX: below 0, not so many.");
        OnlySideways x = laid(0, 1, 2, 3, 4, 5);
        lay(x, 1, 0, 11, 12, 13);
        int[][] wrong = {{-1, 0, 0}, {-1, 0, 1}, {0, -1, 0}, {0, -1, 1}, {0, 0, -1}, {2, 2, -1}, {-1, -1, -1},
            {0, 0, 4}, {0, 1, 3}, {0, 3, 1}, {0, 4, 0}, {6, 0, 0}, {5, 0, 1}, {4, 0, 2}, {3, 0, 3},
            {LEAST, 0, 0}, {0, LEAST, 0}, {0, 0, LEAST}, {MOST, 0, 0}, {0, MOST, 0}, {0, 0, MOST},
            {MOST, 0, 1}, {0, MOST, 1}, {1, 0, MOST}, {0, 1, MOST}, {MOST, MOST, MOST}, {64, 0, 0}, {0, 0, 64}};
        for (int[] a : wrong) {
            is("copy(0, " + a[0] + ", 1, " + a[1] + ", " + a[2] + ")", x.copy(0, a[0], 1, a[1], a[2]), INDEX);
        }
        is("too many of a smaller one", x.copy(1, 0, 0, 0, 4), INDEX);
        is("too many of a smaller one, from 1 on", x.copy(1, 1, 0, 0, 3), INDEX);
        is("onto itself, too far", x.copy(0, 0, 0, 1, 5), INDEX);
        is("onto itself, from too far", x.copy(0, 1, 0, 0, 5), INDEX);
        is("the number of it", x.count(8), 2);
        itemsAre(x, 0, 0, 1, 2, 3, 4, 5);
        itemsAre(x, 1, 0, 11, 12, 13);
        x.sheet(2, 0, 0);
        is("one of none", x.copy(2, 0, 0, 0, 1), INDEX);
        is("one to none", x.copy(0, 0, 2, 0, 1), INDEX);
    }

    private static void copyRefusals() {
        due.says("BAD: the SHEETS; NULL: s, t; STORE; INDEX: below 0, not so many.");
        OnlySideways x = laid(0, 1, 2);
        lay(x, 1, 1, 3, 4);
        for (int s : NO_SHEETS) {
            is("from SHEET " + s, x.copy(s, 0, 0, 0, 1), BAD);
            is("to SHEET " + s, x.copy(0, 0, s, 0, 1), BAD);
            is("BAD before NULL: from " + s, x.copy(s, 0, 3, 0, 1), BAD);
            is("BAD before NULL: to " + s, x.copy(3, 0, s, 0, 1), BAD);
            is("BAD before INDEX: from " + s, x.copy(s, -1, 0, -1, -1), BAD);
            is("BAD before INDEX: to " + s, x.copy(0, -1, s, -1, -1), BAD);
        }
        is("BAD is no FINDING", x.count(8), 0);
        is("NULL: s", x.copy(3, 0, 0, 0, 1), NULL);
        is("NULL: t", x.copy(0, 0, 3, 0, 1), NULL);
        is("NULL: both", x.copy(2, 0, 3, 0, 1), NULL);
        is("NULL: itself", x.copy(3, 0, 3, 0, 0), NULL);
        is("NULL before INDEX: s", x.copy(3, -1, 0, 0, 1), NULL);
        is("NULL before INDEX: t", x.copy(0, -1, 3, 0, 1), NULL);
        is("its number", x.count(8), 1);
        is("STORE", x.copy(0, 0, 1, 0, 1), STORE);
        is("STORE, to a narrower FORM", x.copy(1, 0, 0, 0, 1), STORE);
        is("STORE, though none are copied", x.copy(0, 0, 1, 0, 0), STORE);
        is("STORE before INDEX", x.copy(0, -1, 1, 0, 1), STORE);
        is("STORE before INDEX", x.copy(0, 0, 1, 0, -1), STORE);
        is("STORE before INDEX", x.copy(0, 0, 1, 3, 9), STORE);
        is("its number", x.count(8), 4);
        itemsAre(x, 0, 0, 1, 2);
        itemsAre(x, 1, 1, 3, 4);
    }

    private static void write() {
        due.says("VIEW of CELLS 0 on (NONE of those that are not FREE) comes to a SHEET from item 0 on, as many as there are items: how many. BAD; NULL.");
        for (int form = 0; form < 3; form++) {
            OnlySideways x = Due.with("", "..#;...");
            x.sheet(0, form, 64);
            is("all 64", x.write(0), 64);
            for (int cell = 0; cell < 64; cell++) {
                int want = x.view(cell) == BAD ? NONE : x.view(cell);
                is("item " + cell, x.get(0, form, cell), want);
            }
            is("the first", x.get(0, form, 0), 3);
            is("a wall", x.get(0, form, 2), NONE);
            is("the last", x.get(0, form, 63), NONE);
            x.sheet(0, form, 1);
            is("one", x.write(0), 1);
            is("the one", x.get(0, form, 0), 3);
            x.sheet(0, form, 0);
            is("none", x.write(0), 0);
            x.sheet(0, form, 9);
            is("nine", x.write(0), 9);
            is("the ninth is CELL 8", x.get(0, form, 8), 4);
        }
        OnlySideways wide = Due.with("", WIDE);
        wide.sheet(3, 0, 64);
        is("all FREE", wide.write(3), 64);
        is("the most that one sees", wide.get(3, 0, 63), 15);
        OnlySideways none = laid(1, 7, 8);
        for (int s : NO_SHEETS) {
            is("write(" + s + ")", none.write(s), BAD);
        }
        is("BAD is no FINDING", none.count(8), 0);
        is("LOST", none.write(3), NULL);
        is("its number", none.count(8), 1);
        is("no house", none.write(0), 2);
        itemsAre(none, 0, 1, NONE, NONE);
    }

    private static void read() {
        due.says("SEEN from a SHEET: its items, two for each (side, SIGHT), as many as are whole, as long as each may be: how many. BAD; NULL.");
        for (int form = 0; form < 3; form++) {
            is("no items", laid(form).read(0), 0);
            is("half a pair", laid(form, 1).read(0), 0);
            is("one pair", laid(form, 1, 100).read(0), 1);
            is("one pair and a half", laid(form, 1, 100, 2).read(0), 1);
            is("two pairs", laid(form, 1, 100, 2, 100).read(0), 2);
        }
        OnlySideways x = laid(1, 0, 125, 3, 125);
        Due.typeAll(x, 0, "8000;c000");
        is("read", x.read(0), 2);
        is("they were SEEN", x.count(4), 2);
        is("the side comes first", x.fits(1), 1);
        is("the items stay", x.get(0, 1, 1), 125);
        is("seen more", x.seen(0, 125), 3);
        for (int s : NO_SHEETS) {
            is("read(" + s + ")", x.read(s), BAD);
        }
        is("BAD is no FINDING", x.count(8), 0);
        is("LOST", x.read(3), NULL);
        is("its number", x.count(8), 1);
        is("no more was SEEN", x.count(4), 3);
    }

    private static void readTillFull() {
        due.says("SEEN, 8 at most");
        int[] items = new int[64];
        OnlySideways x = laid(0, items);
        is("32 pairs, eight are taken", x.read(0), 8);
        is("eight SEEN", x.count(4), 8);
        is("none is taken more", x.read(0), 0);
        is("a LOST one", x.read(3), NULL);
        for (int before = 0; before <= 8; before++) {
            OnlySideways some = laid(0, items);
            for (int i = 0; i < before; i++) {
                some.seen(0, 0);
            }
            is("read behind " + before, some.read(0), 8 - before);
            is("eight SEEN", some.count(4), 8);
        }
        OnlySideways exact = laid(0, new int[16]);
        is("eight pairs", exact.read(0), 8);
    }

    private static void readTillOneMayNotBe() {
        due.says("as long as each may be");
        is("side 3, SIGHT 624", laid(1, 3, 624).read(0), 1);
        is("side 0, SIGHT 0", laid(1, 0, 0).read(0), 1);
        is("side 4", laid(1, 4, 0).read(0), 0);
        is("side -1", laid(1, -1, 0).read(0), 0);
        is("SIGHT 625", laid(1, 0, 625).read(0), 0);
        is("SIGHT -1", laid(1, 0, -1).read(0), 0);
        is("a byte of 128 is below 0", laid(0, 0, 128).read(0), 0);
        is("a byte of 127", laid(0, 0, 127).read(0), 1);
        OnlySideways x = laid(2, 1, 1, 4, 1, 1, 1);
        is("none behind the wrong one", x.read(0), 1);
        is("one SEEN", x.count(4), 1);
        is("the wrong one is no FINDING", x.count(8), 0);
        is("ints far off", laid(2, LEAST, 0).read(0), 0);
        is("ints far off", laid(2, 0, MOST).read(0), 0);
        is("ints that would be well as shorts", laid(2, 65536, 0).read(0), 0);
        is("ints that would be well as shorts", laid(2, 0, 65536).read(0), 0);
    }

    private static void findings() {
        due.says("1 NULL: the SHEET is LOST; 2 INDEX: there is no such item; 3 CAST: it has another FORM; 4 STORE: unlike FORMS; 5 SIZE: below 0.");
        OnlySideways x = laid(0, 1, 2);
        x.sheet(1, 1, 2);
        is("0 before any", x.count(8), 0);
        is("NULL", x.lay(3, 0, 0, 0), -11);
        is("1", x.count(8), 1);
        is("INDEX", x.lay(0, 0, 2, 0), -12);
        is("2", x.count(8), 2);
        is("CAST", x.lay(0, 1, 0, 0), -13);
        is("3", x.count(8), 3);
        is("STORE", x.copy(0, 0, 1, 0, 1), -14);
        is("4", x.count(8), 4);
        is("SIZE", x.sheet(0, 0, -1), -15);
        is("5", x.count(8), 5);
    }
}
