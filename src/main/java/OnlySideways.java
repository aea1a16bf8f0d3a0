/** Flat shapes on a sheet, seen only from the side, and the house that they go through. */
public final class OnlySideways {
    public static final int NONE = -1, BAD = -2, NOT = -3, FULL = -4;

    private static final int SHAPE_BYTES = 40, HOUSE_BYTES = 71;
    private static final int SHEETS = 4, FORMS = 3, CELLS = 64, TURNS = 4, SIDES = 4;
    private static final int NULL = 1, INDEX = 2, CAST = 3, STORE = 4, SIZE = 5;
    private static final int LEAST_INT = 0x80000000;
    private static final long LEAST_LONG = 0x8000000000000000L;

    private final Text shapeText;
    private final Text houseText;
    private final Shapes shapes;
    private final House house;
    private final Walk walk;
    private final Clues clues;
    private final Sheet[] sheets;
    private int finding;

    public OnlySideways() {
        shapeText = new Text(SHAPE_BYTES);
        houseText = new Text(HOUSE_BYTES);
        shapes = new Shapes();
        house = new House();
        walk = new Walk();
        clues = new Clues();
        sheets = new Sheet[SHEETS];
        for (int s = 0; s < SHEETS; s++) {
            sheets[s] = new Sheet();
        }
        finding = 0;
    }

    // ---- shapes, house

    public int type(int text, int b) {
        Text chosen = textOf(text);
        if (chosen == null || !within(b, 256)) {
            return BAD;
        }
        if (!chosen.append(b)) {
            return FULL;
        }
        understand(text);
        return chosen.length;
    }

    public int wipe(int text) {
        Text chosen = textOf(text);
        if (chosen == null) {
            return BAD;
        }
        int had = chosen.length;
        chosen.length = 0;
        understand(text);
        return had;
    }

    public int undo(int text) {
        Text chosen = textOf(text);
        if (chosen == null) {
            return BAD;
        }
        if (chosen.length == 0) {
            return NOT;
        }
        chosen.length--;
        understand(text);
        return chosen.length;
    }

    public int fault(int text) {
        if (text == 0) {
            return shapes.faultPlace;
        }
        return text == 1 ? house.faultPlace : BAD;
    }

    public int shape(int shape, int t) {
        return isTurnedShape(shape, t) ? shapes.rowsOf(shape, t) : BAD;
    }

    public int made(int rows, int what) {
        if (rows < 1 || rows > 65535) {
            return BAD;
        }
        switch (what) {
            case 0:
                return Rows.turned(rows);
            case 1:
                return Rows.mirrored(rows);
            case 2:
                return Rows.movedUp(rows);
            default:
                return BAD;
        }
    }

    // ---- what is seen, which are one

    public int sight(int shape, int t, int side) {
        if (!isTurnedShape(shape, t) || !within(side, SIDES)) {
            return BAD;
        }
        return shapes.sightOf(shape, t, side);
    }

    public int form(int shape, int what) {
        if (!isShape(shape)) {
            return BAD;
        }
        int rows = shapes.rowsOf(shape, 0);
        switch (what) {
            case 0:
                return Rows.isWhole(rows) ? 1 : 0;
            case 1:
                return Rows.outline(rows);
            case 2:
                return Integer.bitCount(rows);
            default:
                return BAD;
        }
    }

    public int kin(int shape, int what) {
        if (!isShape(shape) || !within(what, 2)) {
            return BAD;
        }
        int rows = shapes.rowsOf(shape, 0);
        return shapes.thoseOneWith(what == 0 ? rows : Rows.mirrored(rows));
    }

    public int self(int shape) {
        return isShape(shape) ? Rows.turnsTillAlike(shapes.rowsOf(shape, 0)) : BAD;
    }

    // ---- through a house

    public int stands(int shape, int t, int cell) {
        if (!isStand(shape, t, cell)) {
            return BAD;
        }
        return canStand(shape, t, cell) ? 1 : 0;
    }

    public int through(int shape, int t, int from, int u, int to) {
        if (!isStand(shape, t, from) || !isStand(shape, u, to)) {
            return BAD;
        }
        if (!canStand(shape, t, from) || !canStand(shape, u, to)) {
            return NOT;
        }
        walk.begin(shapes, house, shape);
        return walk.fewestSteps(t, from, u, to);
    }

    public int reach(int shape, int t, int from) {
        if (!isStand(shape, t, from)) {
            return BAD;
        }
        if (!canStand(shape, t, from)) {
            return NOT;
        }
        walk.begin(shapes, house, shape);
        return walk.cellsReached(t, from);
    }

    public int meet(int a, int t, int from, int b, int u, int to) {
        if (!isStand(a, t, from) || !isStand(b, u, to)) {
            return BAD;
        }
        if (!canStand(a, t, from) || !canStand(b, u, to)) {
            return 0;
        }
        long first = House.cellsCovered(shapes.rowsOf(a, t), from);
        long second = House.cellsCovered(shapes.rowsOf(b, u), to);
        return (first & second) == 0 ? 1 : 0;
    }

    // ---- which it is

    public int seen(int side, int sight) {
        if (!Clues.mayBe(side, sight)) {
            return BAD;
        }
        return clues.add(side, sight) ? clues.count : FULL;
    }

    public int forget() {
        int had = clues.count;
        clues.count = 0;
        return had;
    }

    public int fits(int what) {
        if (!within(what, 2)) {
            return BAD;
        }
        return what == 0 ? clues.fittingPairs(shapes) : clues.fittingShapes(shapes);
    }

    public int look(int what) {
        if (!within(what, 2)) {
            return BAD;
        }
        if (clues.fittingPairs(shapes) == 0) {
            return NOT;
        }
        int best = 0;
        int left = clues.leftAtWorst(shapes, 0);
        for (int side = 1; side < SIDES; side++) {
            int now = clues.leftAtWorst(shapes, side);
            if (now < left) {
                best = side;
                left = now;
            }
        }
        return what == 0 ? best : left;
    }

    // ---- straight lines

    public int view(int cell) {
        return house.isFree(cell) ? Long.bitCount(house.viewFrom(cell)) : BAD;
    }

    public int sees(int from, int to) {
        if (!house.isFree(from) || !house.isFree(to)) {
            return BAD;
        }
        return House.has(house.viewFrom(from), to) ? 1 : 0;
    }

    public int watchers(int what) {
        if (!within(what, 3)) {
            return BAD;
        }
        house.findWatchers();
        switch (what) {
            case 0:
                return house.watcherCount;
            case 1:
                return house.firstWatcher;
            default:
                return house.secondWatcher;
        }
    }

    public int echoes(int up, int right, int down, int left, int what) {
        if (!isEcho(up) || !isEcho(right) || !isEcho(down) || !isEcho(left) || !within(what, 2)) {
            return BAD;
        }
        int many = 0;
        int least = NONE;
        for (int cell = 0; cell < CELLS; cell++) {
            if (house.isFree(cell) && house.echoesWell(cell, 0, up) && house.echoesWell(cell, 1, right)
                    && house.echoesWell(cell, 2, down) && house.echoesWell(cell, 3, left)) {
                least = many == 0 ? cell : least;
                many++;
            }
        }
        return what == 0 ? many : least;
    }

    public long fog(int from, int to, int sixteenths, int what) {
        if (!house.isFree(from) || !house.isFree(to) || !within(sixteenths, 17) || !within(what, 2)) {
            return LEAST_LONG - BAD;
        }
        long above = House.has(house.viewFrom(from), to) ? 1 : 0;
        long below = 1;
        int steps = House.stepsBetween(from, to);
        for (int i = 0; i < steps && above > 0; i++) {
            above *= 16 - sixteenths;
            below *= 16;
        }
        if (above == 0) {
            return what == 0 ? 0 : 1;
        }
        // below is a power of 2, so halving both is all that lowest terms can ask
        for (int i = 0; i < 28 && above % 2 == 0 && below % 2 == 0; i++) {
            above /= 2;
            below /= 2;
        }
        return what == 0 ? above : below;
    }

    // ---- sheets

    public int sheet(int s, int form, int n) {
        Sheet chosen = sheetOf(s);
        if (chosen == null || !within(form, FORMS) || n > Sheet.MOST) {
            return BAD;
        }
        if (n < 0) {
            return found(SIZE);
        }
        chosen.renew(form, n);
        return n;
    }

    public int lose(int s) {
        Sheet chosen = sheetOf(s);
        if (chosen == null) {
            return BAD;
        }
        if (chosen.lost) {
            return found(NULL);
        }
        chosen.lost = true;
        return chosen.size;
    }

    public int lay(int s, int form, int i, int v) {
        Sheet chosen = sheetOf(s);
        if (chosen == null || !within(form, FORMS)) {
            return BAD;
        }
        int hindrance = chosen.hindrance(form, i);
        if (hindrance != 0) {
            return found(hindrance);
        }
        chosen.put(i, v);
        return 1;
    }

    public int get(int s, int form, int i) {
        Sheet chosen = sheetOf(s);
        if (chosen == null || !within(form, FORMS)) {
            return LEAST_INT;
        }
        int hindrance = chosen.hindrance(form, i);
        if (hindrance != 0) {
            finding = hindrance;
            return LEAST_INT;
        }
        return chosen.item(i);
    }

    public int copy(int s, int i, int t, int j, int n) {
        Sheet source = sheetOf(s);
        Sheet target = sheetOf(t);
        if (source == null || target == null) {
            return BAD;
        }
        if (source.lost || target.lost) {
            return found(NULL);
        }
        if (source.form != target.form) {
            return found(STORE);
        }
        if (!source.holds(i, n) || !target.holds(j, n)) {
            return found(INDEX);
        }
        System.arraycopy(source.items, i, target.items, j, n);
        return 1;
    }

    public int write(int s) {
        Sheet chosen = sheetOf(s);
        if (chosen == null) {
            return BAD;
        }
        if (chosen.lost) {
            return found(NULL);
        }
        for (int cell = 0; cell < chosen.size; cell++) {
            chosen.put(cell, house.isFree(cell) ? view(cell) : NONE);
        }
        return chosen.size;
    }

    public int read(int s) {
        Sheet chosen = sheetOf(s);
        if (chosen == null) {
            return BAD;
        }
        if (chosen.lost) {
            return found(NULL);
        }
        int pairs = chosen.size / 2;
        int taken = 0;
        while (taken < pairs && seen(chosen.item(2 * taken), chosen.item(2 * taken + 1)) > 0) {
            taken++;
        }
        return taken;
    }

    public int count(int what) {
        switch (what) {
            case 0:
                return shapes.count;
            case 1:
                return Long.bitCount(house.free);
            case 2:
                return shapeText.length;
            case 3:
                return houseText.length;
            case 4:
                return clues.count;
            case 5:
                return shapes.cellsOfAll();
            case 6:
                return shapes.wholeOnes();
            case 7:
                return shapes.unlikeTheirMirror();
            case 8:
                return finding;
            default:
                return BAD;
        }
    }

    public long digest() {
        long h = 17;
        for (int what = 0; what <= 7; what++) {
            h = 31 * h + count(what);
        }
        h = 31 * h + fault(0);
        h = 31 * h + fault(1);
        for (int i = 0; i < shapes.count; i++) {
            h = withShape(h, i);
        }
        h = 31 * h + fits(0);
        h = 31 * h + fits(1);
        h = 31 * h + look(0);
        h = 31 * h + look(1);
        h = 31 * h + view(0);
        h = 31 * h + view(9);
        h = 31 * h + sees(0, 2);
        for (int what = 0; what <= 2; what++) {
            h = 31 * h + watchers(what);
        }
        h = 31 * h + echoes(1, NONE, NONE, NONE, 0);
        h = 31 * h + echoes(1, NONE, NONE, NONE, 1);
        h = 31 * h + fog(0, 2, 4, 0);
        h = 31 * h + fog(0, 2, 4, 1);
        return 31 * h + meet(0, 0, 0, 1, 0, 2);
    }

    private long withShape(long before, int i) {
        long h = 31 * before + shape(i, 1);
        for (int side = 0; side < SIDES; side++) {
            h = 31 * h + sight(i, 0, side);
        }
        for (int what = 0; what <= 2; what++) {
            h = 31 * h + form(i, what);
        }
        h = 31 * h + kin(i, 0);
        h = 31 * h + kin(i, 1);
        h = 31 * h + self(i);
        h = 31 * h + stands(i, 0, 0);
        h = 31 * h + through(i, 0, 0, 1, 9);
        return 31 * h + reach(i, 0, 0);
    }

    private static boolean within(int number, int bound) {
        return number >= 0 && number < bound;
    }

    private static boolean isEcho(int told) {
        return told == NONE || within(told, 8);
    }

    private boolean isShape(int shape) {
        return within(shape, shapes.count);
    }

    private boolean isTurnedShape(int shape, int t) {
        return isShape(shape) && within(t, TURNS);
    }

    private boolean isStand(int shape, int t, int cell) {
        return isTurnedShape(shape, t) && within(cell, CELLS);
    }

    private boolean canStand(int shape, int t, int cell) {
        return House.has(house.standsFor(shapes.rowsOf(shape, t)), cell);
    }

    private Text textOf(int text) {
        if (text == 0) {
            return shapeText;
        }
        return text == 1 ? houseText : null;
    }

    private void understand(int text) {
        if (text == 0) {
            shapes.load(shapeText);
        } else {
            house.load(houseText);
        }
    }

    private Sheet sheetOf(int s) {
        return within(s, sheets.length) ? sheets[s] : null;
    }

    private int found(int number) {
        finding = number;
        return -10 - number;
    }

    /** The bytes of a text, of which only the first so many count. */
    private static final class Text {
        final int[] bytes;
        int length;

        Text(int limit) {
            bytes = new int[limit];
            length = 0;
        }

        boolean append(int b) {
            if (length < 0 || length >= bytes.length) {
                return false;
            }
            bytes[length] = b;
            length++;
            return true;
        }

        /** NONE behind the end, so that who reads needs no other test of it. */
        int at(int place) {
            return place >= 0 && place < length && place < bytes.length ? bytes[place] : NONE;
        }
    }

    /** What can be told of four rows of four cells, held as one number of 16 bits. */
    private static final class Rows {
        static final int ALL = 0xFFFF, TOP = 0xF000, LEFT = 0x8888, BUT_LEFT = 0x7777, BUT_RIGHT = 0xEEEE;

        static int bit(int row, int column) {
            return 0x8000 >>> (4 * row + column);
        }

        static int turned(int rows) {
            int result = 0;
            for (int row = 0; row < 4; row++) {
                for (int column = 0; column < 4; column++) {
                    if ((rows & bit(row, column)) != 0) {
                        result |= bit(column, 3 - row);
                    }
                }
            }
            return result;
        }

        static int mirrored(int rows) {
            int result = 0;
            for (int row = 0; row < 4; row++) {
                for (int column = 0; column < 4; column++) {
                    if ((rows & bit(row, column)) != 0) {
                        result |= bit(row, 3 - column);
                    }
                }
            }
            return result;
        }

        static int movedUp(int rows) {
            int result = rows;
            for (int i = 0; i < 3 && (result & TOP) == 0; i++) {
                result <<= 4;
            }
            // the left column is empty whenever this shifts, so no cell comes into another row
            for (int i = 0; i < 3 && (result & LEFT) == 0; i++) {
                result <<= 1;
            }
            return result;
        }

        static boolean areOne(int a, int b) {
            int wanted = movedUp(a);
            int other = b;
            for (int t = 0; t < TURNS; t++) {
                if (movedUp(other) == wanted) {
                    return true;
                }
                other = turned(other);
            }
            return false;
        }

        static int turnsTillAlike(int rows) {
            int wanted = movedUp(rows);
            int other = turned(rows);
            int t = 1;
            while (t < TURNS && movedUp(other) != wanted) {
                other = turned(other);
                t++;
            }
            return t;
        }

        static boolean isWhole(int rows) {
            int grown = rows & -rows;
            for (int i = 0; i < 16; i++) {
                int beside = grown << 4 | grown >>> 4 | (grown & BUT_LEFT) << 1 | (grown & BUT_RIGHT) >>> 1;
                grown |= beside & rows & ALL;
            }
            return grown == rows;
        }

        static int outline(int rows) {
            int above = Integer.bitCount(rows & rows >>> 4);
            int beside = Integer.bitCount(rows & (rows & BUT_RIGHT) >>> 1);
            return 4 * Integer.bitCount(rows) - 2 * (above + beside);
        }

        static int sightFrom(int rows, int side) {
            int result = 0;
            for (int line = 0; line < 4; line++) {
                result = 5 * result + farOff(rows, side, line);
            }
            return result;
        }

        private static int farOff(int rows, int side, int line) {
            boolean acrossRows = side == 0 || side == 2;
            for (int off = 1; off <= 4; off++) {
                int depth = side == 0 || side == 3 ? off - 1 : 4 - off;
                int cell = acrossRows ? bit(depth, line) : bit(line, depth);
                if ((rows & cell) != 0) {
                    return off;
                }
            }
            return 0;
        }
    }

    /** The SHAPES that text 0 tells: in every turn, and as seen from every side. */
    private static final class Shapes {
        static final int MOST = 8, FIGURES = 4;

        final int[] rows = new int[MOST * TURNS];
        final int[] sights = new int[MOST * TURNS * SIDES];
        int count;
        int faultPlace = NONE;

        void load(Text text) {
            faultPlace = findFault(text);
            count = faultPlace == NONE ? (text.length + 1) / (FIGURES + 1) : 0;
            for (int i = 0; i < count && i < MOST; i++) {
                int told = 0;
                for (int k = 0; k < FIGURES; k++) {
                    told = 16 * told + figure(text.at(i * (FIGURES + 1) + k));
                }
                keep(i, told);
            }
        }

        int rowsOf(int shape, int t) {
            int place = shape * TURNS + t;
            return place >= 0 && place < rows.length ? rows[place] : 0;
        }

        int sightOf(int shape, int t, int side) {
            int place = (shape * TURNS + t) * SIDES + side;
            return place >= 0 && place < sights.length ? sights[place] : 0;
        }

        int thoseOneWith(int wanted) {
            int bits = 0;
            for (int i = 0; i < count; i++) {
                if (Rows.areOne(wanted, rowsOf(i, 0))) {
                    bits |= 1 << i;
                }
            }
            return bits;
        }

        int cellsOfAll() {
            int sum = 0;
            for (int i = 0; i < count; i++) {
                sum += Integer.bitCount(rowsOf(i, 0));
            }
            return sum;
        }

        int wholeOnes() {
            int sum = 0;
            for (int i = 0; i < count; i++) {
                sum += Rows.isWhole(rowsOf(i, 0)) ? 1 : 0;
            }
            return sum;
        }

        int unlikeTheirMirror() {
            int sum = 0;
            for (int i = 0; i < count; i++) {
                int own = rowsOf(i, 0);
                sum += Rows.areOne(own, Rows.mirrored(own)) ? 0 : 1;
            }
            return sum;
        }

        private void keep(int shape, int told) {
            int turned = told;
            for (int t = 0; t < TURNS; t++) {
                int place = shape * TURNS + t;
                if (place < 0 || place >= rows.length) {
                    return;
                }
                rows[place] = turned;
                for (int side = 0; side < SIDES; side++) {
                    sights[place * SIDES + side] = Rows.sightFrom(turned, side);
                }
                turned = Rows.turned(turned);
            }
        }

        private static int findFault(Text text) {
            if (text.length == 0) {
                return NONE;
            }
            int place = 0;
            for (int i = 0; i < MOST; i++) {
                int cells = 0;
                for (int k = 0; k < FIGURES; k++) {
                    int bits = figure(text.at(place));
                    if (bits == NONE) {
                        return place;
                    }
                    cells |= bits;
                    place++;
                }
                if (cells == 0) {
                    return place - 1;
                }
                if (place == text.length) {
                    return NONE;
                }
                if (text.at(place) != ';') {
                    return place;
                }
                place++;
            }
            return place;
        }

        private static int figure(int b) {
            if (b >= '0' && b <= '9') {
                return b - '0';
            }
            return b >= 'a' && b <= 'f' ? b - 'a' + 10 : NONE;
        }
    }

    /** The FREE CELLS that text 1 tells, one bit for each CELL. */
    private static final class House {
        static final int WIDEST = 8;
        static final long LEFT_COLUMN = 0x0101010101010101L;
        private static final int[] ROW_STEPS = {-1, 0, 1, 0};
        private static final int[] COLUMN_STEPS = {0, 1, 0, -1};

        final long[] views = new long[CELLS];
        long free;
        int faultPlace = NONE;
        int watcherCount;
        int firstWatcher = NONE;
        int secondWatcher = NONE;

        void load(Text text) {
            int width = widthOf(text);
            faultPlace = findFault(text, width);
            free = 0;
            if (faultPlace != NONE) {
                return;
            }
            for (int row = 0; row < WIDEST; row++) {
                for (int column = 0; column < width; column++) {
                    if (text.at(row * (width + 1) + column) == '.') {
                        free |= 1L << (8 * row + column);
                    }
                }
            }
        }

        static boolean has(long cells, int cell) {
            return within(cell, CELLS) && (cells >>> cell & 1) == 1;
        }

        boolean isFree(int cell) {
            return has(free, cell);
        }

        /** All CELLS where these rows can stand, found for all of them at once. */
        long standsFor(int rows) {
            long stands = -1L;
            for (int row = 0; row < 4; row++) {
                for (int column = 0; column < 4; column++) {
                    if ((rows & Rows.bit(row, column)) != 0) {
                        long inHouse = LEFT_COLUMN * (0xFF >>> column);
                        stands &= free >>> (8 * row + column) & inHouse;
                    }
                }
            }
            return stands;
        }

        /** Asked only where the rows can stand, so that no cell is outside of the house. */
        static long cellsCovered(int rows, int cell) {
            long covered = 0;
            for (int row = 0; row < 4; row++) {
                for (int column = 0; column < 4; column++) {
                    int place = cell + 8 * row + column;
                    if ((rows & Rows.bit(row, column)) != 0 && within(place, CELLS)) {
                        covered |= 1L << place;
                    }
                }
            }
            return covered;
        }

        static int stepsBetween(int from, int to) {
            return Math.abs(from / 8 - to / 8) + Math.abs(from % 8 - to % 8);
        }

        long viewFrom(int cell) {
            long seen = 1L << cell;
            for (int way = 0; way < SIDES; way++) {
                int step = 8 * ROW_STEPS[way] + COLUMN_STEPS[way];
                int far = freeAhead(cell, way);
                for (int k = 1; k <= far; k++) {
                    seen |= 1L << (cell + k * step);
                }
            }
            return seen;
        }

        boolean echoesWell(int cell, int way, int told) {
            return told == NONE || told == freeAhead(cell, way);
        }

        void findWatchers() {
            watcherCount = NONE;
            firstWatcher = NONE;
            secondWatcher = NONE;
            if (free == 0) {
                watcherCount = 0;
                return;
            }
            for (int cell = 0; cell < CELLS; cell++) {
                views[cell] = isFree(cell) ? viewFrom(cell) : 0;
            }
            for (int cell = 0; cell < CELLS; cell++) {
                if (views[cell] == free) {
                    watcherCount = 1;
                    firstWatcher = cell;
                    return;
                }
            }
            findTwoWatchers();
        }

        private void findTwoWatchers() {
            for (int first = 0; first < CELLS; first++) {
                for (int second = first + 1; second < CELLS; second++) {
                    if ((views[first] | views[second]) == free) {
                        watcherCount = 2;
                        firstWatcher = first;
                        secondWatcher = second;
                        return;
                    }
                }
            }
        }

        private int freeAhead(int cell, int way) {
            if (!within(way, SIDES)) {
                return 0;
            }
            int row = cell / 8;
            int column = cell % 8;
            int many = 0;
            for (int k = 1; k < WIDEST; k++) {
                row += ROW_STEPS[way];
                column += COLUMN_STEPS[way];
                boolean inside = within(row, WIDEST) && within(column, WIDEST);
                if (!inside || (free >>> (8 * row + column) & 1) == 0) {
                    return many;
                }
                many++;
            }
            return many;
        }

        private static int widthOf(Text text) {
            int width = 0;
            while (width < WIDEST && isGround(text.at(width))) {
                width++;
            }
            return width;
        }

        private static int findFault(Text text, int width) {
            if (text.length == 0) {
                return NONE;
            }
            if (width == 0) {
                return 0;
            }
            int place = 0;
            for (int row = 0; row < WIDEST; row++) {
                for (int column = 0; column < width; column++) {
                    if (!isGround(text.at(place))) {
                        return place;
                    }
                    place++;
                }
                if (place == text.length) {
                    return NONE;
                }
                if (text.at(place) != ';') {
                    return place;
                }
                place++;
            }
            return place;
        }

        private static boolean isGround(int b) {
            return b == '.' || b == '#';
        }
    }

    /** Where one SHAPE can come, step by step: for each turn the CELLS as bits. */
    private static final class Walk {
        static final int MOST_STEPS = TURNS * CELLS;
        static final long RIGHT_COLUMN = House.LEFT_COLUMN << 7;

        final long[] stands = new long[TURNS];
        final long[] reached = new long[TURNS];
        final long[] edge = new long[TURNS];
        final long[] next = new long[TURNS];

        void begin(Shapes shapes, House house, int shape) {
            for (int t = 0; t < TURNS; t++) {
                stands[t] = house.standsFor(shapes.rowsOf(shape, t));
                reached[t] = 0;
                edge[t] = 0;
            }
        }

        int fewestSteps(int t, int from, int u, int to) {
            if (!setOut(t, from) || !within(u, TURNS)) {
                return NONE;
            }
            if (House.has(reached[u], to)) {
                return 0;
            }
            for (int steps = 1; steps <= MOST_STEPS && goOn(); steps++) {
                if (House.has(reached[u], to)) {
                    return steps;
                }
            }
            return NONE;
        }

        int cellsReached(int t, int from) {
            if (!setOut(t, from)) {
                return 0;
            }
            int steps = 0;
            while (steps < MOST_STEPS && goOn()) {
                steps++;
            }
            long cells = 0;
            for (int turn = 0; turn < TURNS; turn++) {
                cells |= reached[turn];
            }
            return Long.bitCount(cells);
        }

        private boolean setOut(int t, int from) {
            if (!within(t, TURNS) || !within(from, CELLS)) {
                return false;
            }
            reached[t] = 1L << from;
            edge[t] = 1L << from;
            return true;
        }

        /** One step more from all the stands that the last step reached: whether a new one came. */
        private boolean goOn() {
            long fresh = 0;
            for (int t = 0; t < TURNS; t++) {
                long turned = edge[(t + 1) % TURNS] | edge[(t + 3) % TURNS];
                next[t] = (shifted(edge[t]) | turned) & stands[t] & ~reached[t];
                fresh |= next[t];
            }
            for (int t = 0; t < TURNS; t++) {
                edge[t] = next[t];
                reached[t] |= next[t];
            }
            return fresh != 0;
        }

        private static long shifted(long cells) {
            long aside = (cells & ~House.LEFT_COLUMN) >>> 1 | (cells & ~RIGHT_COLUMN) << 1;
            return cells >>> 8 | cells << 8 | aside;
        }
    }

    /** What was SEEN, and which SHAPES it leaves. */
    private static final class Clues {
        static final int MOST = 8, SIGHTS = 625;

        final int[] sides = new int[MOST];
        final int[] sights = new int[MOST];
        final int[] told = new int[Shapes.MOST * TURNS];
        int count;

        static boolean mayBe(int side, int sight) {
            return within(side, SIDES) && within(sight, SIGHTS);
        }

        boolean add(int side, int sight) {
            if (!within(count, MOST)) {
                return false;
            }
            sides[count] = side;
            sights[count] = sight;
            count++;
            return true;
        }

        int fittingPairs(Shapes shapes) {
            int pairs = 0;
            for (int i = 0; i < shapes.count; i++) {
                for (int t = 0; t < TURNS; t++) {
                    pairs += isFitting(shapes, i, t) ? 1 : 0;
                }
            }
            return pairs;
        }

        int fittingShapes(Shapes shapes) {
            int bits = 0;
            for (int i = 0; i < shapes.count; i++) {
                for (int t = 0; t < TURNS; t++) {
                    if (isFitting(shapes, i, t)) {
                        bits |= 1 << i;
                    }
                }
            }
            return bits;
        }

        /** The most SHAPES that one and the same SIGHT from this side would leave. */
        int leftAtWorst(Shapes shapes, int side) {
            for (int pair = 0; pair < told.length; pair++) {
                int shape = pair / TURNS;
                int t = pair % TURNS;
                boolean fits = shape < shapes.count && isFitting(shapes, shape, t);
                told[pair] = fits ? shapes.sightOf(shape, t, side) : NONE;
            }
            int worst = 0;
            for (int pair = 0; pair < told.length; pair++) {
                if (told[pair] != NONE) {
                    worst = Math.max(worst, Integer.bitCount(shapesTelling(told[pair])));
                }
            }
            return worst;
        }

        private int shapesTelling(int sight) {
            int bits = 0;
            for (int pair = 0; pair < told.length; pair++) {
                if (told[pair] == sight) {
                    bits |= 1 << pair / TURNS;
                }
            }
            return bits;
        }

        private boolean isFitting(Shapes shapes, int shape, int t) {
            for (int k = 0; k < count && k < MOST; k++) {
                if (shapes.sightOf(shape, t, sides[k]) != sights[k]) {
                    return false;
                }
            }
            return true;
        }
    }

    /** A SHEET: a row of items, each as wide as its FORM lets it be. */
    private static final class Sheet {
        static final int MOST = 64;

        final int[] items = new int[MOST];
        int form;
        int size;
        boolean lost = true;

        void renew(int newForm, int newSize) {
            form = newForm;
            size = Math.min(Math.max(newSize, 0), MOST);
            lost = false;
            for (int i = 0; i < MOST; i++) {
                items[i] = 0;
            }
        }

        /** The number of the FINDING that keeps one from an item, 0 if there is none. */
        int hindrance(int asForm, int i) {
            if (lost) {
                return NULL;
            }
            if (asForm != form) {
                return CAST;
            }
            return within(i, size) ? 0 : INDEX;
        }

        boolean holds(int from, int many) {
            return from >= 0 && many >= 0 && from <= size && many <= size - from;
        }

        int item(int i) {
            return within(i, size) && i < items.length ? items[i] : 0;
        }

        void put(int i, int v) {
            if (!within(i, size) || i >= items.length) {
                return;
            }
            switch (form) {
                case 0:
                    items[i] = (byte) v;
                    break;
                case 1:
                    items[i] = (short) v;
                    break;
                default:
                    items[i] = v;
            }
        }
    }
}
