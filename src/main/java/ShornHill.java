/**
 * A hill grows a coat and must be shorn in one piece by a path that does not cross itself.
 *
 * <p>Rows are made once, with the object, and used again: no call makes an object.
 */
public final class ShornHill {
    public static final int UNKNOWN = -1, OUTSIDE = -2, STATE = -3, FULL = -4, NONE = -9;
    public static final long LOST = Long.MIN_VALUE;

    private static final int NO_FAULT = 0, NULL = 1, CAST = 2, INDEX = 3, SIZE = 4;
    private static final int GRASS = 0, SPRING = 1, HOLLOW = 2, THORN = 3;
    private static final int BYTES = 0, SHORTS = 1, INTS = 2;

    private static final int MOST_CELLS = 16, MOST_WEEKS = 9, MOST_INCHES = 9;
    private static final int LEAST_PACE = 1, MOST_PACE = 3;
    private static final int LEAST_BREADTH = 1, MOST_BREADTH = 9;
    private static final int STROKES = 4, MOST_STROKES_TOLD = 20;
    private static final int MOST_STROKES = MOST_CELLS - 1;
    private static final int SHEETS = 4, LONGEST_ROW = 60;
    private static final int MOST_READINGS = 8;

    /** How many codes of a text stand ahead of its first row of cells. */
    private static final int HEAD = 5;
    /** Less a place, it answers a text or a path that goes wrong there. */
    private static final int WRONG_AT = -100;
    /** 12 to the 15th: by each of 15 strokes it can be parted in 1, 2, 3 or 4 with nothing left over. */
    private static final long ALL_ODDS = 15407021574586368L;

    private final Land land = new Land();
    private final Readings readings = new Readings();
    private final Shears shears = new Shears();
    private final Sheet[] sheets = new Sheet[SHEETS];
    private int latestFault = NO_FAULT;
    private int bodiesBegun = 0;

    public ShornHill() {
        for (int k = 0; k < SHEETS; k++) {
            sheets[k] = new Sheet();
        }
    }

    // ---- 1 the hill

    public int hill(int sheet, int lane, int i, int n) {
        latestFault = NO_FAULT;
        if (!isSheet(sheet)) {
            return UNKNOWN;
        }
        if (!isLane(lane)) {
            return OUTSIDE;
        }
        Sheet text = sheets[sheet];
        int fault = text.faultAs(lane);
        if (fault == NO_FAULT && n < 0) {
            fault = SIZE;
        }
        if (fault == NO_FAULT && !text.spans(i, n)) {
            fault = INDEX;
        }
        if (fault != NO_FAULT) {
            return failed(fault);
        }
        int wrong = firstFault(text.row, i, n);
        if (wrong != NONE) {
            return WRONG_AT - wrong;
        }
        land.grow(text.row, i);
        readings.count = 0;
        return Integer.bitCount(land.softCells());
    }

    public int ofCell(int c, int what) {
        if (!land.has(c)) {
            return UNKNOWN;
        }
        switch (what) {
            case 0: return land.kind[c];
            case 1: return land.weekly(c);
            case 2: return land.eaten[c];
            default: return OUTSIDE;
        }
    }

    public int goats(int c, int v) {
        if (!land.isSoft(c)) {
            return UNKNOWN;
        }
        if (!isInches(v)) {
            return OUTSIDE;
        }
        int was = land.eaten[c];
        land.eaten[c] = v;
        return was;
    }

    public int pace(int v) {
        if (v < LEAST_PACE || v > MOST_PACE) {
            return OUTSIDE;
        }
        if (!land.stands()) {
            return STATE;
        }
        int was = land.paceNow;
        land.paceNow = v;
        return was;
    }

    public int breadth(int v) {
        if (v < LEAST_BREADTH || v > MOST_BREADTH) {
            return OUTSIDE;
        }
        if (!land.stands()) {
            return STATE;
        }
        int was = land.breadthNow;
        land.breadthNow = v;
        return was;
    }

    public int coat(int c, int weeks) {
        if (!land.has(c)) {
            return UNKNOWN;
        }
        return isWeeks(weeks) ? land.inches(c, weeks) : OUTSIDE;
    }

    public int ripe(int weeks) {
        if (!land.stands()) {
            return STATE;
        }
        return isWeeks(weeks) ? land.ripeCells(weeks) : OUTSIDE;
    }

    // ---- 2 paths

    public int path(int weeks, int c, int sheet, int lane, int i, int n, int what) {
        latestFault = NO_FAULT;
        if (!land.has(c) || !isSheet(sheet)) {
            return UNKNOWN;
        }
        boolean strokesAreTold = isLane(lane) && n >= 0 && n <= MOST_STROKES_TOLD;
        if (!isWeeks(weeks) || !strokesAreTold || what < 0 || what > 3) {
            return OUTSIDE;
        }
        if (!land.isRipe(c, weeks)) {
            return STATE;
        }
        Sheet told = sheets[sheet];
        int fault = told.faultAs(lane);
        if (fault == NO_FAULT && !told.spans(i, n)) {
            fault = INDEX;
        }
        if (fault != NO_FAULT) {
            return failed(fault);
        }
        return areStrokes(told.row, i, n) ? followed(weeks, c, told.row, i, n, what) : OUTSIDE;
    }

    // ---- 3 fleeces

    public int fleece(int weeks, int c, int k) {
        if (!land.has(c)) {
            return UNKNOWN;
        }
        if (!isWeeks(weeks) || k < -1 || k >= MOST_STROKES) {
            return OUTSIDE;
        }
        if (!land.isRipe(c, weeks)) {
            return STATE;
        }
        int most = mostShorn(c, land.ripeCells(weeks));
        if (k == -1) {
            return most;
        }
        return k < most - 1 ? shears.best[k] : NONE;
    }

    public int start(int weeks) {
        if (!land.stands()) {
            return STATE;
        }
        if (!isWeeks(weeks)) {
            return OUTSIDE;
        }
        int ripe = land.ripeCells(weeks);
        int most = 0;
        int best = NONE;
        for (int c = 0; c < land.cells(); c++) {
            int shorn = isIn(ripe, c) ? mostShorn(c, ripe) : 0;
            if (shorn > most) {
                most = shorn;
                best = c;
            }
        }
        return best;
    }

    public int whole(int c) {
        if (!land.isSoft(c)) {
            return UNKNOWN;
        }
        for (int weeks = 0; weeks <= MOST_WEEKS; weeks++) {
            if (land.isAllRipe(weeks) && shearsAllSoft(c)) {
                return weeks;
            }
        }
        return NONE;
    }

    public int stops(int weeks) {
        if (!land.stands()) {
            return STATE;
        }
        if (!isWeeks(weeks)) {
            return OUTSIDE;
        }
        if (canBeShornWhole(weeks)) {
            return NONE;
        }
        for (int c = 0; c < land.cells(); c++) {
            if (land.kind[c] == THORN && couldBeShornWhole(weeks, c)) {
                return c;
            }
        }
        return NONE;
    }

    // ---- 4 how long it was

    public int reading(int c, int weeks, int v) {
        if (!land.isSoft(c)) {
            return UNKNOWN;
        }
        if (!isWeeks(weeks) || !isInches(v)) {
            return OUTSIDE;
        }
        return readings.count < MOST_READINGS ? readings.add(c, weeks, v) : FULL;
    }

    public int back(int k) {
        if (k < 0 || k > readings.count) {
            return OUTSIDE;
        }
        readings.count -= k;
        return readings.count;
    }

    public int kinds(int c) {
        if (!land.isSoft(c)) {
            return UNKNOWN;
        }
        int is = land.kind[c];
        int set = 0;
        for (int supposed = GRASS; supposed <= HOLLOW; supposed++) {
            land.kind[c] = supposed;
            if (readings.areSo(land)) {
                set |= bit(supposed);
            }
        }
        land.kind[c] = is;
        return set;
    }

    public int paces() {
        if (!land.stands()) {
            return STATE;
        }
        int is = land.paceNow;
        int set = 0;
        for (int supposed = LEAST_PACE; supposed <= MOST_PACE; supposed++) {
            land.paceNow = supposed;
            if (readings.areSo(land)) {
                set |= bit(supposed);
            }
        }
        land.paceNow = is;
        return set;
    }

    public int eatings(int c) {
        if (!land.isSoft(c)) {
            return UNKNOWN;
        }
        int is = land.eaten[c];
        int set = 0;
        for (int supposed = 0; supposed <= MOST_INCHES; supposed++) {
            land.eaten[c] = supposed;
            if (readings.areSo(land)) {
                set |= bit(supposed);
            }
        }
        land.eaten[c] = is;
        return set;
    }

    public long odds(int weeks, int c, int which) {
        if (!land.has(c) || !isWeeks(weeks) || which < 0 || which > 1 || !land.isRipe(c, weeks)) {
            return LOST;
        }
        long upper = oddsOn(land, c, without(land.ripeCells(weeks), c), ALL_ODDS, 1);
        long divisor = Math.max(1, commonDivisor(ALL_ODDS, upper));
        return (which == 0 ? upper : ALL_ODDS) / divisor;
    }

    // ---- 5 sheets, parts

    public int sheet(int k, int lane, int n) {
        latestFault = NO_FAULT;
        if (!isSheet(k)) {
            return UNKNOWN;
        }
        if (!isLane(lane) || n > LONGEST_ROW) {
            return OUTSIDE;
        }
        if (n < 0) {
            return failed(SIZE);
        }
        sheets[k].renew(lane, n);
        return 1;
    }

    public int lose(int k) {
        if (!isSheet(k)) {
            return UNKNOWN;
        }
        int had = sheets[k].hasRow ? 1 : 0;
        sheets[k].hasRow = false;
        return had;
    }

    public int put(int k, int i, int v) {
        latestFault = NO_FAULT;
        if (!isSheet(k)) {
            return UNKNOWN;
        }
        Sheet to = sheets[k];
        if (!to.hasRow) {
            return failed(NULL);
        }
        if (!to.holds(i)) {
            return failed(INDEX);
        }
        to.row[i] = to.cut(v);
        return 1;
    }

    public long cell(int k, int i, int lane) {
        latestFault = NO_FAULT;
        if (!isSheet(k) || !isLane(lane)) {
            return LOST;
        }
        Sheet from = sheets[k];
        latestFault = from.faultAs(lane);
        if (latestFault == NO_FAULT && !from.holds(i)) {
            latestFault = INDEX;
        }
        return latestFault == NO_FAULT ? from.row[i] : LOST;
    }

    public int copy(int k, int i, int other, int j, int n) {
        latestFault = NO_FAULT;
        if (!isSheet(k) || !isSheet(other)) {
            return UNKNOWN;
        }
        Sheet from = sheets[k];
        Sheet to = sheets[other];
        if (!from.hasRow || !to.hasRow) {
            return failed(NULL);
        }
        if (from.lane != to.lane) {
            return failed(CAST);
        }
        if (!from.spans(i, n) || !to.spans(j, n)) {
            return failed(INDEX);
        }
        System.arraycopy(from.row, i, to.row, j, n);
        return n;
    }

    public int tell(int c) {
        if (!land.isSoft(c)) {
            return UNKNOWN;
        }
        switch (land.kind[c]) {
            case HOLLOW: return hollowTells(c);
            case SPRING: return springTells(c);
            default: return grassTells(c);
        }
    }

    public int trod(int c) {
        if (!land.isSoft(c)) {
            return UNKNOWN;
        }
        if (land.kind[c] == HOLLOW) {
            begin(5);
            return 40;
        }
        begin(4);
        return c;
    }

    public int as(int c, int kind) {
        latestFault = NO_FAULT;
        if (!land.isSoft(c)) {
            return UNKNOWN;
        }
        if (kind < GRASS || kind > HOLLOW) {
            return OUTSIDE;
        }
        // Each kind is one of all the kinds ahead of it.
        return land.kind[c] >= kind ? 1 : failed(CAST);
    }

    public int trace() {
        return bodiesBegun;
    }

    public int fault() {
        return latestFault;
    }

    public int many(int what) {
        switch (what) {
            case 0: return land.cells();
            case 1: return land.wide;
            case 2: return land.paceNow;
            case 3: return land.breadthNow;
            case 4: return land.cells() - Integer.bitCount(land.softCells());
            case 5: return readings.count;
            default: return OUTSIDE;
        }
    }

    // ---- what calls are asked

    private static boolean isSheet(int k) {
        return k >= 0 && k < SHEETS;
    }

    private static boolean isLane(int lane) {
        return lane >= BYTES && lane <= INTS;
    }

    private static boolean isWeeks(int weeks) {
        return weeks >= 0 && weeks <= MOST_WEEKS;
    }

    private static boolean isInches(int v) {
        return v >= 0 && v <= MOST_INCHES;
    }

    private static boolean areStrokes(int[] row, int from, int n) {
        for (int k = from; k < from + n; k++) {
            if (row[k] < 0 || row[k] >= STROKES) {
                return false;
            }
        }
        return true;
    }

    private int failed(int fault) {
        latestFault = fault;
        return -10 - fault;
    }

    // ---- sets

    private static int bit(int k) {
        return 1 << k;
    }

    private static boolean isIn(int set, int k) {
        return k >= 0 && (set & bit(k)) != 0;
    }

    private static int without(int set, int k) {
        return set & ~bit(k);
    }

    // ---- texts

    /** The FIRST FAULT of a text, or NONE. */
    private static int firstFault(int[] row, int from, int n) {
        int rowsLeft = 0;
        int wide = 0;
        int column = 0;
        for (int place = 0; place < n; place++) {
            int code = row[from + place];
            boolean isHead = place < HEAD;
            if (isHead ? !fitsHead(place, code) : rowsLeft == 0 || !fitsRow(column, code)) {
                return place;
            }
            if (place == 1) {
                rowsLeft = code - '0';
            } else if (place == 2) {
                wide = code - '0';
            } else if (!isHead && column < wide) {
                column++;
            } else if (!isHead) {
                column = 0;
                rowsLeft--;
            }
        }
        return n < HEAD || rowsLeft > 0 ? n : NONE;
    }

    private static boolean fitsHead(int place, int code) {
        switch (place) {
            case 0: return code == 'h';
            case 1: return code >= '1' && code <= '4';
            case 2: return code >= '2' && code <= '4';
            case 3: return code >= '1' && code <= '3';
            default: return code >= '1' && code <= '9';
        }
    }

    /** Column 0 is that of the sign ahead of a row's letters. */
    private static boolean fitsRow(int column, int code) {
        return column == 0 ? code == ';' : kindOf(code) != NONE;
    }

    private static int kindOf(int code) {
        switch (code) {
            case 'g': return GRASS;
            case 's': return SPRING;
            case 'o': return HOLLOW;
            case '#': return THORN;
            default: return NONE;
        }
    }

    // ---- paths

    /** What is asked of a path by n strokes, told in a row from a place on. */
    private int followed(int weeks, int c, int[] row, int from, int n, int what) {
        int ripe = land.ripeCells(weeks);
        int left = without(ripe, c);
        int at = c;
        int wrong = NONE;
        for (int k = 0; k < n && wrong == NONE; k++) {
            int next = land.beside(at, row[from + k]);
            if (isIn(left, next)) {
                at = next;
                left = without(left, next);
            } else {
                wrong = k;
            }
        }
        if (what == 1) {
            return wrong;
        }
        if (wrong != NONE) {
            return WRONG_AT - wrong;
        }
        if (what == 0) {
            return at;
        }
        int shorn = ripe & ~left;
        return what == 2 ? shorn : land.inchesOfAll(shorn, weeks);
    }

    // ---- fleeces

    /** How many cells the fleece from c has; its strokes are the shears' best row then. */
    private int mostShorn(int c, int ripe) {
        shears.most = 0;
        shears.goal = Integer.bitCount(ripe);
        shear(shears, land, c, without(ripe, c), 1);
        return shears.most;
    }

    /**
     * Tries all that goes on from c. Strokes are tried from the least on, and only a longer path is
     * kept, so that of the longest the first as a row stays.
     */
    private static void shear(Shears shears, Land land, int c, int left, int shorn) {
        if (shorn > shears.most) {
            shears.keep(shorn);
        }
        if (shorn > MOST_STROKES) {
            return;
        }
        for (int stroke = 0; stroke < STROKES && shears.most < shears.goal; stroke++) {
            int next = land.beside(c, stroke);
            if (isIn(left, next)) {
                shears.tried[shorn - 1] = stroke;
                shear(shears, land, next, without(left, next), shorn + 1);
            }
        }
    }

    /** Whether the fleece from c has all cells but thorns, if these are all ripe. */
    private boolean shearsAllSoft(int c) {
        int soft = land.softCells();
        return mostShorn(c, soft) == Integer.bitCount(soft);
    }

    private boolean canBeShornWhole(int weeks) {
        if (!land.isAllRipe(weeks)) {
            return false;
        }
        for (int c = 0; c < land.cells(); c++) {
            if (land.isSoft(c) && shearsAllSoft(c)) {
                return true;
            }
        }
        return false;
    }

    private boolean couldBeShornWhole(int weeks, int thornAsGrass) {
        land.kind[thornAsGrass] = GRASS;
        boolean could = canBeShornWhole(weeks);
        land.kind[thornAsGrass] = THORN;
        return could;
    }

    // ---- odds

    /** The part of a share that goes to paths that shear all that is left. */
    private static long oddsOn(Land land, int c, int left, long share, int shorn) {
        if (left == 0) {
            return share;
        }
        int choices = 0;
        for (int stroke = 0; stroke < STROKES; stroke++) {
            choices += isIn(left, land.beside(c, stroke)) ? 1 : 0;
        }
        if (choices == 0 || shorn > MOST_STROKES) {
            return 0;
        }
        long all = 0;
        for (int stroke = 0; stroke < STROKES; stroke++) {
            int next = land.beside(c, stroke);
            if (isIn(left, next)) {
                all += oddsOn(land, next, without(left, next), share / choices, shorn + 1);
            }
        }
        return all;
    }

    /** The greatest common divisor of a (above 0) and b (0 at least). */
    private static long commonDivisor(long a, long b) {
        for (int turn = 0; turn < 1000 && b != 0; turn++) {
            long rest = a % b;
            a = b;
            b = rest;
        }
        return a;
    }

    // ---- bodies that tell

    private void begin(int body) {
        bodiesBegun = 31 * bodiesBegun + body;
    }

    private int grassTells(int c) {
        begin(1);
        return land.eaten[c];
    }

    private int springTells(int c) {
        begin(2);
        return grassTells(c) + 100;
    }

    private int hollowTells(int c) {
        begin(3);
        int asSpring = springTells(c);
        return asSpring + grassTells(c);
    }

    /** The cells of the hill and what grows on them; no hill is one of no rows. */
    private static final class Land {
        private int high = 0;
        private int wide = 0;
        private int paceNow = 0;
        private int breadthNow = 0;
        private final int[] kind = new int[MOST_CELLS];
        /** What goats ate; 0 of a thorn, always. */
        private final int[] eaten = new int[MOST_CELLS];
        private final int[] neighbours = new int[MOST_CELLS * STROKES];

        private boolean stands() {
            return high > 0;
        }

        private int cells() {
            return high * wide;
        }

        private boolean has(int c) {
            return c >= 0 && c < cells();
        }

        private boolean isSoft(int c) {
            return has(c) && kind[c] != THORN;
        }

        /** Makes all anew by a text that has no fault. */
        private void grow(int[] row, int from) {
            high = row[from + 1] - '0';
            wide = row[from + 2] - '0';
            paceNow = row[from + 3] - '0';
            breadthNow = row[from + 4] - '0';
            int c = 0;
            for (int down = 0; down < high; down++) {
                int letters = from + HEAD + down * (wide + 1) + 1;
                for (int right = 0; right < wide; right++) {
                    kind[c] = kindOf(row[letters + right]);
                    eaten[c] = 0;
                    meet(c, down, right);
                    c++;
                }
            }
        }

        private void meet(int c, int down, int right) {
            neighbours[STROKES * c] = down > 0 ? c - wide : NONE;
            neighbours[STROKES * c + 1] = right < wide - 1 ? c + 1 : NONE;
            neighbours[STROKES * c + 2] = down < high - 1 ? c + wide : NONE;
            neighbours[STROKES * c + 3] = right > 0 ? c - 1 : NONE;
        }

        /** The cell to which a stroke leads from c; NONE: off the hill. */
        private int beside(int c, int stroke) {
            return neighbours[STROKES * c + stroke];
        }

        private int weekly(int c) {
            switch (kind[c]) {
                case GRASS: return paceNow;
                case SPRING: return paceNow + 1;
                case HOLLOW: return 2 * (paceNow + 1);
                default: return 0;
            }
        }

        private int inches(int c, int weeks) {
            int rest = weeks * weekly(c) - eaten[c];
            return Math.max(0, Math.min(MOST_INCHES, rest));
        }

        private int inchesOfAll(int set, int weeks) {
            int all = 0;
            for (int c = 0; c < cells(); c++) {
                all += isIn(set, c) ? inches(c, weeks) : 0;
            }
            return all;
        }

        private boolean isRipe(int c, int weeks) {
            return kind[c] != THORN && inches(c, weeks) >= breadthNow;
        }

        private int ripeCells(int weeks) {
            int set = 0;
            for (int c = 0; c < cells(); c++) {
                set |= isRipe(c, weeks) ? bit(c) : 0;
            }
            return set;
        }

        /** Whether all cells but thorns are ripe. */
        private boolean isAllRipe(int weeks) {
            return ripeCells(weeks) == softCells();
        }

        /** All cells but thorns. */
        private int softCells() {
            int set = 0;
            for (int c = 0; c < cells(); c++) {
                set |= kind[c] != THORN ? bit(c) : 0;
            }
            return set;
        }
    }

    /** How long coats were, as told. */
    private static final class Readings {
        private int count = 0;
        private final int[] ofCells = new int[MOST_READINGS];
        private final int[] behindWeeks = new int[MOST_READINGS];
        private final int[] inchesTold = new int[MOST_READINGS];

        private int add(int c, int weeks, int v) {
            ofCells[count] = c;
            behindWeeks[count] = weeks;
            inchesTold[count] = v;
            count++;
            return count - 1;
        }

        private boolean areSo(Land land) {
            for (int k = 0; k < count; k++) {
                if (land.inches(ofCells[k], behindWeeks[k]) != inchesTold[k]) {
                    return false;
                }
            }
            return true;
        }
    }

    /** The path that is tried, and the longest one so far. */
    private static final class Shears {
        private final int[] tried = new int[MOST_STROKES];
        private final int[] best = new int[MOST_STROKES];
        private int most = 0;
        /** More cells than these there are none: nothing is tried beyond. */
        private int goal = 0;

        private void keep(int shorn) {
            most = shorn;
            System.arraycopy(tried, 0, best, 0, shorn - 1);
        }
    }

    /** A sheet: its row is used again by each new row that it gets. */
    private static final class Sheet {
        private boolean hasRow = false;
        private int lane = BYTES;
        private int length = 0;
        private final int[] row = new int[LONGEST_ROW];

        private void renew(int newLane, int n) {
            hasRow = true;
            lane = newLane;
            length = n;
            for (int i = 0; i < n; i++) {
                row[i] = 0;
            }
        }

        /** The fault of taking it as a row of a lane. */
        private int faultAs(int asked) {
            if (!hasRow) {
                return NULL;
            }
            return lane == asked ? NO_FAULT : CAST;
        }

        private boolean holds(int i) {
            return i >= 0 && i < length;
        }

        /** Whether there are n cells from i on. */
        private boolean spans(int i, int n) {
            return i >= 0 && n >= 0 && i <= length && n <= length - i;
        }

        private int cut(int v) {
            switch (lane) {
                case BYTES: return (byte) v;
                case SHORTS: return (short) v;
                default: return v;
            }
        }
    }
}
