/**
 * Terms, refusals and faults: of several the first in the order in which a call's line tells them;
 * they change nothing but fault(), and that only if the call names faults. Every refusal and every
 * fault of every call has a row: its label, the answer, what fault() is then, the call.
 */
public final class RefusalTest {
    private static final int LOW = Integer.MIN_VALUE, HIGH = Integer.MAX_VALUE;
    private static final long LOST = ShornHill.LOST;
    /** The call names no faults: fault() is what it was. */
    private static final int KEPT = -1;
    private static final int[] CELLS_BEYOND = {-1, LOW, 9, HIGH};
    private static final int[] THORNS = {3, 5};
    private static final int[] SHEETS_BEYOND = {-1, LOW, 4, HIGH};
    private static final int[] LANES_BEYOND = {-1, LOW, 3, HIGH};
    private static final int[] WEEKS_BEYOND = {-1, LOW, 10, HIGH};

    private interface Call {
        long on(ShornHill x);
    }

    private interface Make {
        ShornHill object();
    }

    private final Make make;
    private final long[] untouched;

    private RefusalTest(Make make) {
        this.make = make;
        untouched = Sight.of(make.object());
    }

    public static void main(String[] args) {
        RefusalTest stood = new RefusalTest(RefusalTest::stood);
        stood.hillRefuses();
        stood.hillFails();
        stood.hillOfNoText();
        stood.cellsRefuse();
        stood.hillOfWeeksRefuses();
        stood.pathRefuses();
        stood.pathFails();
        stood.fleecesRefuse();
        stood.readingsRefuse();
        stood.oddsRefuse();
        stood.sheetRefuses();
        stood.putRefuses();
        stood.cellRefuses();
        stood.copyRefuses();
        stood.copyFails();
        stood.bodiesRefuse();
        stood.manyRefuses();
        stood.whatIsAskedChangesNothing();
        stood.thereAndBackIsNoChange();
        stood.bodiesLeaveAllButTrace();
        new RefusalTest(ShornHill::new).noHill();
        new RefusalTest(RefusalTest::filled).fullOfReadings();
        new RefusalTest(() -> Checks.told("h2411;#g#g;#g#g")).aThornIsSupposed();
        Checks.end();
    }

    /**
     * Kinds g s o, # g #, s g g; goats ate 1 of cell 0 and 9 of cell 2; pace 2, breadth 3: cell 0 is
     * ripe behind two weeks, not behind one. Sheet 0 has shorts, 1 an empty row of bytes, 2 nothing,
     * 3 the text, of 17 bytes.
     */
    private static ShornHill stood() {
        ShornHill x = Checks.told("h3312;gso;#g#;sgg");
        x.goats(0, 1);
        x.goats(2, 9);
        x.pace(2);
        x.breadth(3);
        x.reading(0, 2, 3);
        x.reading(1, 1, 3);
        x.reading(2, 9, 9);
        x.tell(2);
        x.trod(0);
        Checks.row(x, 0, 1, 1, 2, 7, -300);
        x.sheet(1, 0, 0);
        return x;
    }

    private static ShornHill filled() {
        ShornHill x = Checks.told("h2212;gs;o#");
        for (int k = 0; k < 8; k++) {
            x.reading(k % 3, k, k == 7 ? 8 : x.coat(k % 3, k));
        }
        return x;
    }

    /** Behind a call that came to a fault, and behind one that came to none. */
    private void row(String label, long answer, int fault, Call call) {
        for (int before = 0; before <= 4; before += 4) {
            ShornHill x = make.object();
            if (before == 4) {
                x.sheet(0, 0, -1);
            } else {
                x.sheet(0, 3, 0);
            }
            Checks.due(label, call.on(x), answer);
            Checks.due(label + ", fault behind " + before, x.fault(), fault == KEPT ? before : fault);
            Sight.same(label, x, untouched);
        }
    }

    private void hillRefuses() {
        for (int k : SHEETS_BEYOND) {
            row("2: no sheet " + k + ", all else wrong", -1, 0, x -> x.hill(k, 3, -1, -1));
            row("2: no sheet " + k, -1, 0, x -> x.hill(k, 0, 0, 17));
        }
        for (int lane : LANES_BEYOND) {
            row("2: no lane " + lane + ", no row, all else wrong", -2, 0, x -> x.hill(2, lane, -1, -1));
            row("2: no lane " + lane, -2, 0, x -> x.hill(3, lane, 0, 17));
        }
    }

    private void hillFails() {
        row("2: shorts as bytes", -12, 2, x -> x.hill(0, 0, -1, -1));
        row("2: shorts as ints", -12, 2, x -> x.hill(0, 2, 0, 4));
        row("2: bytes as shorts", -12, 2, x -> x.hill(3, 1, 0, 17));
        row("2: bytes as ints", -12, 2, x -> x.hill(3, 2, 18, 0));
        row("2: an empty row is of a lane, too", -12, 2, x -> x.hill(1, 1, 0, 0));
        for (int lane = 0; lane <= 2; lane++) {
            int asked = lane;
            row("2: nothing is no cast, lane " + lane, -11, 1, x -> x.hill(2, asked, -1, -1));
            row("2: nothing, no cells of it", -11, 1, x -> x.hill(2, asked, 0, 0));
        }
        row("2: size ahead of index", -14, 4, x -> x.hill(3, 0, -1, -1));
        row("2: size, least", -14, 4, x -> x.hill(3, 0, 0, LOW));
        row("2: size of an empty row", -14, 4, x -> x.hill(1, 0, 1, -1));
        int[][] beyond = {{-1, 0}, {-1, 1}, {LOW, 0}, {LOW, HIGH}, {18, 0}, {HIGH, 0}, {HIGH, HIGH}, {0, 18},
            {17, 1}, {1, 17}, {16, 2}, {0, HIGH}, {1, HIGH}, {17, HIGH}};
        for (int[] b : beyond) {
            row("2: index " + b[0] + " " + b[1], -13, 3, x -> x.hill(3, 0, b[0], b[1]));
        }
        int[][] ofEmpty = {{0, 1}, {1, 0}, {-1, 0}, {0, HIGH}};
        for (int[] b : ofEmpty) {
            row("2: index of an empty row " + b[0] + " " + b[1], -13, 3, x -> x.hill(1, 0, b[0], b[1]));
        }
    }

    /** A text that is not taken is no fault of the machine. */
    private void hillOfNoText() {
        row("2: no codes", -100, 0, x -> x.hill(3, 0, 0, 0));
        row("2: no codes, at the end", -100, 0, x -> x.hill(3, 0, 17, 0));
        row("2: no codes of an empty row", -100, 0, x -> x.hill(1, 0, 0, 0));
        row("2: one code too few", -116, 0, x -> x.hill(3, 0, 0, 16));
        row("2: from behind its h", -100, 0, x -> x.hill(3, 0, 1, 16));
        row("2: no text at all", -100, 0, x -> x.hill(0, 1, 0, 4));
    }

    private void cellsRefuse() {
        for (int c : CELLS_BEYOND) {
            row("3: no cell " + c, -1, KEPT, x -> x.ofCell(c, 0));
            row("3: no cell " + c + ", what", -1, KEPT, x -> x.ofCell(c, 3));
            row("4: no cell " + c, -1, KEPT, x -> x.goats(c, 0));
            row("4: no cell " + c + ", v", -1, KEPT, x -> x.goats(c, 10));
            row("7: no cell " + c, -1, KEPT, x -> x.coat(c, 0));
            row("7: no cell " + c + ", weeks", -1, KEPT, x -> x.coat(c, 10));
        }
        for (int c : THORNS) {
            row("4: thorn " + c, -1, KEPT, x -> x.goats(c, 0));
            row("4: thorn " + c + ", v", -1, KEPT, x -> x.goats(c, -1));
        }
        for (int what : new int[] {-1, 3, LOW, HIGH}) {
            row("3: what " + what, -2, KEPT, x -> x.ofCell(0, what));
            row("3: what " + what + " of a thorn", -2, KEPT, x -> x.ofCell(3, what));
        }
        for (int v : new int[] {-1, 10, LOW, HIGH}) {
            row("4: v " + v, -2, KEPT, x -> x.goats(2, v));
        }
        for (int weeks : WEEKS_BEYOND) {
            row("7: weeks " + weeks, -2, KEPT, x -> x.coat(0, weeks));
            row("7: weeks " + weeks + " of a thorn", -2, KEPT, x -> x.coat(3, weeks));
        }
    }

    private void hillOfWeeksRefuses() {
        for (int v : new int[] {0, 4, -1, LOW, HIGH}) {
            row("5: pace " + v, -2, KEPT, x -> x.pace(v));
        }
        for (int v : new int[] {0, 10, -1, LOW, HIGH}) {
            row("6: breadth " + v, -2, KEPT, x -> x.breadth(v));
        }
        for (int weeks : WEEKS_BEYOND) {
            row("8: weeks " + weeks, -2, KEPT, x -> x.ripe(weeks));
            row("11: weeks " + weeks, -2, KEPT, x -> x.start(weeks));
            row("13: weeks " + weeks, -2, KEPT, x -> x.stops(weeks));
        }
    }

    private void pathRefuses() {
        for (int c : CELLS_BEYOND) {
            row("9: no cell " + c + ", all else wrong", -1, 0, x -> x.path(10, c, 4, 3, -1, 21, 4));
            row("9: no cell " + c, -1, 0, x -> x.path(9, c, 0, 1, 0, 2, 0));
        }
        for (int k : SHEETS_BEYOND) {
            row("9: no sheet " + k + ", all else wrong", -1, 0, x -> x.path(10, 3, k, 3, -1, 21, 4));
            row("9: no sheet " + k, -1, 0, x -> x.path(9, 0, k, 1, 0, 2, 0));
        }
        for (int weeks : WEEKS_BEYOND) {
            row("9: weeks " + weeks, -2, 0, x -> x.path(weeks, 0, 0, 1, 0, 2, 0));
            row("9: weeks " + weeks + " ahead of a thorn", -2, 0, x -> x.path(weeks, 3, 2, 1, 0, 2, 0));
        }
        for (int lane : LANES_BEYOND) {
            row("9: lane " + lane, -2, 0, x -> x.path(9, 0, 0, lane, 0, 2, 0));
            row("9: lane " + lane + " ahead of a thorn", -2, 0, x -> x.path(9, 3, 2, lane, 0, 2, 0));
        }
        for (int n : new int[] {-1, 21, LOW, HIGH}) {
            row("9: n " + n, -2, 0, x -> x.path(9, 0, 0, 1, 0, n, 0));
            row("9: n " + n + " ahead of a thorn", -2, 0, x -> x.path(9, 3, 2, 1, 0, n, 0));
        }
        for (int what : new int[] {-1, 4, LOW, HIGH}) {
            row("9: what " + what, -2, 0, x -> x.path(9, 0, 0, 1, 0, 2, what));
            row("9: what " + what + " ahead of a thorn", -2, 0, x -> x.path(9, 3, 2, 1, 0, 2, what));
        }
        for (int c : THORNS) {
            row("9: thorn " + c + " ahead of no row", -3, 0, x -> x.path(9, c, 2, 1, 0, 2, 0));
        }
        row("9: not ripe, ahead of no row", -3, 0, x -> x.path(1, 0, 2, 1, -1, 2, 0));
        row("9: not ripe, ahead of cast", -3, 0, x -> x.path(1, 0, 0, 0, -1, 2, 0));
        row("9: not ripe, ahead of index", -3, 0, x -> x.path(1, 0, 0, 1, -1, 2, 0));
        row("9: not ripe, ahead of no stroke", -3, 0, x -> x.path(1, 0, 0, 1, 2, 1, 0));
        row("9: no weeks", -3, 0, x -> x.path(0, 0, 0, 1, 0, 0, 1));
    }

    private void pathFails() {
        row("9: shorts as bytes, ahead of index", -12, 2, x -> x.path(9, 0, 0, 0, -1, 0, 0));
        row("9: shorts as ints", -12, 2, x -> x.path(9, 0, 0, 2, 0, 2, 0));
        row("9: an empty row is of a lane, too", -12, 2, x -> x.path(9, 0, 1, 2, 0, 0, 0));
        for (int lane = 0; lane <= 2; lane++) {
            int asked = lane;
            row("9: nothing is no cast, lane " + lane, -11, 1, x -> x.path(9, 0, 2, asked, -1, 20, 0));
            row("9: nothing, no strokes", -11, 1, x -> x.path(9, 0, 2, asked, 0, 0, 1));
        }
        int[][] beyond = {{-1, 0}, {-1, 1}, {LOW, 0}, {5, 0}, {HIGH, 0}, {HIGH, 20}, {4, 1}, {0, 5}, {0, 20}, {2, 3}};
        for (int[] b : beyond) {
            row("9: index " + b[0] + " " + b[1], -13, 3, x -> x.path(9, 0, 0, 1, b[0], b[1], 1));
        }
        row("9: index of an empty row", -13, 3, x -> x.path(9, 0, 1, 0, 0, 1, 1));
        row("9: index of an empty row, none", -13, 3, x -> x.path(9, 0, 1, 0, 1, 0, 1));
        row("9: no stroke", -2, 0, x -> x.path(9, 0, 0, 1, 2, 1, 0));
        row("9: no stroke, below", -2, 0, x -> x.path(9, 0, 0, 1, 3, 1, 1));
        row("9: no stroke behind good ones", -2, 0, x -> x.path(9, 0, 0, 1, 0, 3, 1));
        row("9: no stroke behind a wrong one", -2, 0, x -> x.path(9, 8, 0, 1, 0, 3, 1));
        row("9: a wrong one", -100, 0, x -> x.path(9, 8, 0, 1, 0, 2, 0));
    }

    private void fleecesRefuse() {
        for (int c : CELLS_BEYOND) {
            row("10: no cell " + c, -1, KEPT, x -> x.fleece(9, c, -1));
            row("10: no cell " + c + ", all else wrong", -1, KEPT, x -> x.fleece(10, c, 15));
            row("12: no cell " + c, -1, KEPT, x -> x.whole(c));
        }
        for (int weeks : WEEKS_BEYOND) {
            row("10: weeks " + weeks, -2, KEPT, x -> x.fleece(weeks, 0, -1));
            row("10: weeks " + weeks + " ahead of a thorn", -2, KEPT, x -> x.fleece(weeks, 3, -1));
        }
        for (int k : new int[] {-2, 15, LOW, HIGH}) {
            row("10: k " + k, -2, KEPT, x -> x.fleece(9, 0, k));
            row("10: k " + k + " ahead of not ripe", -2, KEPT, x -> x.fleece(0, 0, k));
        }
        for (int c : THORNS) {
            row("10: thorn " + c, -3, KEPT, x -> x.fleece(9, c, -1));
            row("12: thorn " + c, -1, KEPT, x -> x.whole(c));
        }
        row("10: not ripe", -3, KEPT, x -> x.fleece(1, 0, -1));
        row("10: not ripe, a stroke that is not", -3, KEPT, x -> x.fleece(1, 0, 14));
    }

    private void readingsRefuse() {
        for (int c : CELLS_BEYOND) {
            row("14: no cell " + c, -1, KEPT, x -> x.reading(c, 0, 0));
            row("14: no cell " + c + ", all else wrong", -1, KEPT, x -> x.reading(c, 10, 10));
            row("16: no cell " + c, -1, KEPT, x -> x.kinds(c));
            row("18: no cell " + c, -1, KEPT, x -> x.eatings(c));
        }
        for (int c : THORNS) {
            row("14: thorn " + c, -1, KEPT, x -> x.reading(c, 0, 0));
            row("14: thorn " + c + ", all else wrong", -1, KEPT, x -> x.reading(c, -1, -1));
            row("16: thorn " + c, -1, KEPT, x -> x.kinds(c));
            row("18: thorn " + c, -1, KEPT, x -> x.eatings(c));
        }
        for (int weeks : WEEKS_BEYOND) {
            row("14: weeks " + weeks, -2, KEPT, x -> x.reading(0, weeks, 0));
        }
        for (int v : new int[] {-1, 10, LOW, HIGH}) {
            row("14: v " + v, -2, KEPT, x -> x.reading(0, 0, v));
        }
        for (int k : new int[] {-1, 4, LOW, HIGH}) {
            row("15: back " + k + " of 3", -2, KEPT, x -> x.back(k));
        }
    }

    private void oddsRefuse() {
        for (int c : CELLS_BEYOND) {
            row("19: no cell " + c, LOST, KEPT, x -> x.odds(9, c, 0));
        }
        for (int weeks : WEEKS_BEYOND) {
            row("19: weeks " + weeks, LOST, KEPT, x -> x.odds(weeks, 0, 1));
        }
        for (int which : new int[] {-1, 2, LOW, HIGH}) {
            row("19: which " + which, LOST, KEPT, x -> x.odds(9, 0, which));
        }
        for (int c : THORNS) {
            row("19: thorn " + c, LOST, KEPT, x -> x.odds(9, c, 0));
        }
        row("19: not ripe", LOST, KEPT, x -> x.odds(1, 0, 0));
        row("19: not ripe, lower", LOST, KEPT, x -> x.odds(0, 8, 1));
    }

    private void sheetRefuses() {
        for (int k : SHEETS_BEYOND) {
            row("20: no sheet " + k, -1, 0, x -> x.sheet(k, 0, 5));
            row("20: no sheet " + k + ", all else wrong", -1, 0, x -> x.sheet(k, 3, -1));
            row("21: no sheet " + k, -1, KEPT, x -> x.lose(k));
        }
        for (int lane : LANES_BEYOND) {
            row("20: lane " + lane, -2, 0, x -> x.sheet(3, lane, 5));
            row("20: lane " + lane + " ahead of size", -2, 0, x -> x.sheet(3, lane, -1));
        }
        row("20: one too many", -2, 0, x -> x.sheet(3, 0, 61));
        row("20: far too many", -2, 0, x -> x.sheet(2, 2, HIGH));
        for (int lane = 0; lane <= 2; lane++) {
            int of = lane;
            row("20: size, lane " + lane, -14, 4, x -> x.sheet(3, of, -1));
            row("20: size of nothing, lane " + lane, -14, 4, x -> x.sheet(2, of, LOW));
        }
    }

    private void putRefuses() {
        for (int k : SHEETS_BEYOND) {
            row("22: no sheet " + k, -1, 0, x -> x.put(k, -1, 1));
        }
        for (int i : new int[] {-1, 0, HIGH}) {
            row("22: nothing, ahead of index " + i, -11, 1, x -> x.put(2, i, 1));
        }
        for (int i : new int[] {-1, LOW, 4, HIGH}) {
            row("22: index " + i, -13, 3, x -> x.put(0, i, 1));
        }
        for (int i : new int[] {-1, 0, 1}) {
            row("22: index of an empty row " + i, -13, 3, x -> x.put(1, i, 1));
        }
    }

    private void cellRefuses() {
        for (int k : SHEETS_BEYOND) {
            row("23: no sheet " + k, LOST, 0, x -> x.cell(k, -1, 3));
            row("23: no sheet " + k, LOST, 0, x -> x.cell(k, 0, 0));
        }
        for (int lane : LANES_BEYOND) {
            row("23: lane " + lane, LOST, 0, x -> x.cell(2, -1, lane));
            row("23: lane " + lane, LOST, 0, x -> x.cell(3, 0, lane));
        }
        row("23: shorts as bytes, ahead of index", LOST, 2, x -> x.cell(0, -1, 0));
        row("23: shorts as ints", LOST, 2, x -> x.cell(0, 0, 2));
        row("23: bytes as shorts", LOST, 2, x -> x.cell(3, 0, 1));
        row("23: bytes as ints", LOST, 2, x -> x.cell(3, 17, 2));
        row("23: an empty row is of a lane, too", LOST, 2, x -> x.cell(1, 0, 1));
        for (int lane = 0; lane <= 2; lane++) {
            int asked = lane;
            row("23: nothing is no cast, ahead of index", LOST, 1, x -> x.cell(2, -1, asked));
            row("23: nothing is no cast", LOST, 1, x -> x.cell(2, 0, asked));
        }
        for (int i : new int[] {-1, LOW, 4, HIGH}) {
            row("23: index " + i, LOST, 3, x -> x.cell(0, i, 1));
        }
        row("23: index of an empty row", LOST, 3, x -> x.cell(1, 0, 0));
    }

    private void copyRefuses() {
        for (int k : SHEETS_BEYOND) {
            row("24: from no sheet " + k, -1, 0, x -> x.copy(k, -1, 2, -1, -1));
            row("24: to no sheet " + k, -1, 0, x -> x.copy(2, -1, k, -1, -1));
            row("24: no sheets " + k, -1, 0, x -> x.copy(k, 0, k, 0, 1));
        }
    }

    private void copyFails() {
        row("24: from nothing", -11, 1, x -> x.copy(2, -1, 0, -1, -1));
        row("24: to nothing", -11, 1, x -> x.copy(0, -1, 2, -1, -1));
        row("24: nothing to nothing", -11, 1, x -> x.copy(2, 0, 2, 0, 0));
        row("24: shorts to bytes, ahead of index", -12, 2, x -> x.copy(0, -1, 3, -1, -1));
        row("24: bytes to shorts", -12, 2, x -> x.copy(3, 0, 0, 0, 1));
        row("24: none of shorts to bytes", -12, 2, x -> x.copy(0, 0, 1, 0, 0));
        int[][] beyond = {{-1, 0, 0}, {0, -1, 0}, {0, 0, -1}, {LOW, 0, 0}, {0, LOW, 0}, {0, 0, LOW}, {18, 0, 0},
            {0, 18, 0}, {HIGH, 0, 0}, {0, HIGH, 0}, {0, 0, HIGH}, {0, 0, 18}, {17, 0, 1}, {0, 17, 1}, {16, 0, 2},
            {0, 16, 2}, {HIGH, HIGH, HIGH}, {1, 0, HIGH}, {0, 1, HIGH}, {HIGH, 0, 1}, {0, HIGH, 1}, {17, 0, -1},
            {0, 17, -1}};
        for (int[] b : beyond) {
            row("24: index " + b[0] + " " + b[1] + " " + b[2], -13, 3, x -> x.copy(3, b[0], 3, b[1], b[2]));
        }
        row("24: index of an empty one", -13, 3, x -> x.copy(3, 0, 1, 0, 1));
        row("24: index of an empty first", -13, 3, x -> x.copy(1, 0, 3, 0, 1));
        row("24: none beyond an empty one", -13, 3, x -> x.copy(3, 0, 1, 1, 0));
        row("24: none beyond an empty first", -13, 3, x -> x.copy(1, 1, 3, 0, 0));
    }

    private void bodiesRefuse() {
        int[] unknown = {-1, LOW, 9, HIGH, THORNS[0], THORNS[1]};
        for (int c : unknown) {
            row("25: cell " + c, -1, KEPT, x -> x.tell(c));
            row("26: cell " + c, -1, KEPT, x -> x.trod(c));
            row("27: cell " + c, -1, 0, x -> x.as(c, 0));
            row("27: cell " + c + " ahead of a kind", -1, 0, x -> x.as(c, 3));
        }
        for (int kind : new int[] {-1, 3, LOW, HIGH}) {
            row("27: kind " + kind + " of grass", -2, 0, x -> x.as(0, kind));
            row("27: kind " + kind + " of a hollow", -2, 0, x -> x.as(2, kind));
        }
        row("27: grass is no spring", -12, 2, x -> x.as(0, 1));
        row("27: grass is no hollow", -12, 2, x -> x.as(0, 2));
        row("27: a spring is no hollow", -12, 2, x -> x.as(1, 2));
    }

    private void manyRefuses() {
        for (int what : new int[] {-1, 6, LOW, HIGH}) {
            row("30: what " + what, -2, KEPT, x -> x.many(what));
        }
    }

    /** What is supposed for an answer's sake is not so behind it. */
    private void whatIsAskedChangesNothing() {
        for (int weeks = 0; weeks <= 9; weeks++) {
            int behind = weeks;
            row("13: asked", -9, KEPT, x -> x.stops(behind));
            row("7: asked", 0, KEPT, x -> x.coat(3, behind));
        }
        row("8: asked", 1 + 2 + 4 + 16 + 64 + 128 + 256, KEPT, x -> x.ripe(9));
        row("9: asked", 4, 0, x -> x.path(9, 0, 0, 1, 0, 2, 0));
        row("10: asked", 5, KEPT, x -> x.fleece(9, 0, -1));
        row("11: asked", 0, KEPT, x -> x.start(9));
        row("12: asked", -9, KEPT, x -> x.whole(0));
        row("16: asked", 1, KEPT, x -> x.kinds(0));
        row("17: asked", 4, KEPT, x -> x.paces());
        row("18: asked", 2, KEPT, x -> x.eatings(0));
        row("19: asked", 0, KEPT, x -> x.odds(9, 0, 0));
        row("15: none taken back", 3, KEPT, x -> x.back(0));
        row("21: nothing is lost", 0, KEPT, x -> x.lose(2));
        row("24: none copied", 0, 0, x -> x.copy(3, 17, 3, 17, 0));
        row("24: none copied of an empty row", 0, 0, x -> x.copy(1, 0, 1, 0, 0));
        row("27: asked", 1, 0, x -> x.as(2, 0));
        row("28: asked", x28(), KEPT, x -> x.trace());
    }

    private void aThornIsSupposed() {
        row("13: the second thorn", 2, KEPT, x -> x.stops(1));
        row("13: not ripe", -9, KEPT, x -> x.stops(0));
    }

    /** A hollow tells (3, 2, 1, 1), and grass is trod (4). */
    private static int x28() {
        return (((3 * 31 + 2) * 31 + 1) * 31 + 1) * 31 + 4;
    }

    /** What a call changes is all that it changes: put back, all is as it was. */
    private void thereAndBackIsNoChange() {
        row("4: there and back", 9, KEPT, x -> then(x.goats(0, 9), x.goats(0, 1)));
        row("4: what it was already", 9, KEPT, x -> x.goats(2, 9));
        row("5: there and back", 3, KEPT, x -> then(x.pace(3), x.pace(2)));
        row("6: there and back", 9, KEPT, x -> then(x.breadth(9), x.breadth(3)));
        row("14: one told, one taken back", 3, KEPT, x -> then(x.reading(8, 9, 0), x.back(1)));
        row("20: a row for nothing, and lost", 1, 0, x -> then(x.sheet(2, 1, 60), x.lose(2)));
        row("20: an empty row for an empty one", 1, 0, x -> x.sheet(1, 0, 0));
        row("22: there and back", 1, 0, x -> then(x.put(0, 3, 5), x.put(0, 3, -300)));
        row("22: cut to what it was", 1, 0, x -> x.put(3, 0, 'h' - 256));
        row("24: onto itself", 17, 0, x -> x.copy(3, 0, 3, 0, 17));
    }

    private void bodiesLeaveAllButTrace() {
        int[] tells = {1, 100, 118};
        int[] trods = {0, 1, 40};
        for (int c = 0; c < 3; c++) {
            ShornHill x = make.object();
            x.sheet(0, 0, -1);
            Checks.due("25: cell " + c, x.tell(c), tells[c]);
            Checks.due("26: cell " + c, x.trod(c), trods[c]);
            Checks.due("29: bodies have no fault", x.fault(), 4);
            Sight.sameButTrace("25: cell " + c, x, untouched);
        }
    }

    private static long then(long first, long second) {
        Checks.due("the first of two calls is not refused", first >= 0 ? 1 : 0, 1);
        return second;
    }

    private void noHill() {
        row("3: no hill", -1, KEPT, x -> x.ofCell(0, 3));
        row("4: no hill", -1, KEPT, x -> x.goats(0, 10));
        for (int v : new int[] {1, 2, 3}) {
            row("5: no hill, " + v, -3, KEPT, x -> x.pace(v));
        }
        for (int v : new int[] {0, 4}) {
            row("5: outside ahead of state, " + v, -2, KEPT, x -> x.pace(v));
        }
        for (int v : new int[] {1, 9}) {
            row("6: no hill, " + v, -3, KEPT, x -> x.breadth(v));
        }
        for (int v : new int[] {0, 10}) {
            row("6: outside ahead of state, " + v, -2, KEPT, x -> x.breadth(v));
        }
        row("7: no hill", -1, KEPT, x -> x.coat(0, 10));
        for (int weeks : new int[] {-1, 0, 9, 10}) {
            row("8: no hill, ahead of outside, " + weeks, -3, KEPT, x -> x.ripe(weeks));
            row("11: no hill, ahead of outside, " + weeks, -3, KEPT, x -> x.start(weeks));
            row("13: no hill, ahead of outside, " + weeks, -3, KEPT, x -> x.stops(weeks));
        }
        row("9: no hill", -1, 0, x -> x.path(10, 0, 0, 0, 0, 0, 0));
        row("10: no hill", -1, KEPT, x -> x.fleece(10, 0, 15));
        row("12: no hill", -1, KEPT, x -> x.whole(0));
        row("14: no hill", -1, KEPT, x -> x.reading(0, 10, 10));
        row("15: no hill, one", -2, KEPT, x -> x.back(1));
        row("15: no hill, less than none", -2, KEPT, x -> x.back(-1));
        row("15: no hill, none", 0, KEPT, x -> x.back(0));
        row("16: no hill", -1, KEPT, x -> x.kinds(0));
        row("17: no hill", -3, KEPT, x -> x.paces());
        row("18: no hill", -1, KEPT, x -> x.eatings(0));
        row("19: no hill", LOST, KEPT, x -> x.odds(9, 0, 0));
        row("2: nothing", -11, 1, x -> x.hill(0, 0, 0, 8));
        row("22: nothing", -11, 1, x -> x.put(0, 0, 0));
        row("23: nothing", LOST, 1, x -> x.cell(0, 0, 0));
        row("24: nothing", -11, 1, x -> x.copy(0, 0, 1, 0, 0));
        row("25: no hill", -1, KEPT, x -> x.tell(0));
        row("26: no hill", -1, KEPT, x -> x.trod(0));
        row("27: no hill", -1, 0, x -> x.as(0, 3));
        row("30: no hill", -2, KEPT, x -> x.many(6));
    }

    private void fullOfReadings() {
        row("14: full", -4, KEPT, x -> x.reading(0, 0, 0));
        row("14: full, a spring", -4, KEPT, x -> x.reading(1, 9, 9));
        row("14: unknown ahead of full", -1, KEPT, x -> x.reading(3, 0, 0));
        row("14: weeks ahead of full", -2, KEPT, x -> x.reading(0, 10, 0));
        row("14: v ahead of full", -2, KEPT, x -> x.reading(0, 0, -1));
        row("15: one more than all", -2, KEPT, x -> x.back(9));
    }
}
