import java.math.BigInteger;

/** Part 5, sheets, copies, bodies that tell, trace, fault, many; promises 1 and 20 to 30 at their edges. */
public final class SheetEdgeTest {
    private static final long LOST = ShornHill.LOST;
    private static final int LOW = Integer.MIN_VALUE, HIGH = Integer.MAX_VALUE;

    public static void main(String[] args) {
        nothingAtFirst();
        rowsOfNoneToSixty();
        rowsAreOfNothingAtFirst();
        aNewRowForAnOldOne();
        refusedSheetsKeepTheirRow();
        sheetsAreFour();
        lostOnceAndAgain();
        lostIsNothingForAll();
        cutToBytes();
        cutToShorts();
        intsAreNotCut();
        putsOfOneCell();
        cellsAsTheirLaneOnly();
        copiedOnAndBackWithinASheet();
        copiedWhole();
        copiedNone();
        copiedOntoItself();
        copiedAsTheyWere();
        copiedCellsAreTheirOwn();
        copiedCellsOnly();
        copiedBeyondByOne();
        tellingAtTheEdgesOfEating();
        bodiesInTheirOrder();
        trodByNumbers();
        traceWraps();
        traceIsLeftByAllOthers();
        kindsThatAreOthers();
        faultOfTheLatestCallThatNamesOne();
        faultIsNotOfRefusals();
        manyOfAll();
        manyWithoutAHill();
        allCallsOfAnObject();
        objectsAreTheirOwn();
        Checks.end();
    }

    private static void rowIs(String label, ShornHill x, int k, int lane, int... due) {
        for (int i = 0; i < due.length; i++) {
            Checks.due(label + ", cell " + i, x.cell(k, i, lane), due[i]);
            Checks.due(label + ", fault at " + i, x.fault(), 0);
        }
        Checks.due(label + ", behind its end", x.cell(k, due.length, lane), LOST);
        Checks.due(label + ", fault behind its end", x.fault(), 3);
    }

    private static void nothingAtFirst() {
        ShornHill x = new ShornHill();
        Checks.due("29: ahead of any", x.fault(), 0);
        Checks.due("28: ahead of any", x.trace(), 0);
        for (int what = 0; what <= 5; what++) {
            Checks.due("30: ahead of any " + what, x.many(what), 0);
        }
        for (int k = 0; k < 4; k++) {
            for (int lane = 0; lane <= 2; lane++) {
                Checks.due("1: sheet " + k + " as " + lane, x.cell(k, 0, lane), LOST);
                Checks.due("1: nothing", x.fault(), 1);
            }
            Checks.due("1: put on " + k, x.put(k, 0, 1), -11);
            Checks.due("1: lose " + k, x.lose(k), 0);
        }
        Checks.due("1: no cells", x.ofCell(0, 0), -1);
        Checks.due("1: no hill", x.ripe(0), -3);
    }

    private static void rowsOfNoneToSixty() {
        ShornHill x = new ShornHill();
        for (int lane = 0; lane <= 2; lane++) {
            for (int n : new int[] {0, 1, 2, 59, 60}) {
                Checks.due("20: " + n, x.sheet(1, lane, n), 1);
                Checks.due("29: " + n, x.fault(), 0);
                Checks.due("20: the last of " + n, x.cell(1, n - 1, lane), n > 0 ? 0 : LOST);
                Checks.due("20: behind the last of " + n, x.cell(1, n, lane), LOST);
                Checks.due("29: behind the last of " + n, x.fault(), 3);
                Checks.due("22: behind the last of " + n, x.put(1, n, 1), -13);
            }
            Checks.due("20: 61", x.sheet(1, lane, 61), -2);
            Checks.due("29: 61 is no fault", x.fault(), 0);
            Checks.due("20: -1", x.sheet(1, lane, -1), -14);
            Checks.due("29: -1 is one", x.fault(), 4);
            Checks.due("20: least", x.sheet(1, lane, LOW), -14);
            Checks.due("20: most", x.sheet(1, lane, HIGH), -2);
        }
    }

    private static void rowsAreOfNothingAtFirst() {
        ShornHill x = new ShornHill();
        for (int lane = 0; lane <= 2; lane++) {
            x.sheet(2, lane, 60);
            for (int i = 0; i < 60; i++) {
                Checks.due("20: 0 at first, " + i, x.cell(2, i, lane), 0);
                x.put(2, i, i + 1);
            }
        }
    }

    private static void aNewRowForAnOldOne() {
        ShornHill x = new ShornHill();
        Checks.row(x, 0, 2, 7, 8, 9);
        Checks.due("20: as long", x.sheet(0, 2, 3), 1);
        rowIs("20: as long", x, 0, 2, 0, 0, 0);
        x.put(0, 2, 5);
        Checks.due("20: shorter", x.sheet(0, 1, 1), 1);
        rowIs("20: shorter", x, 0, 1, 0);
        Checks.due("23: of the old lane", x.cell(0, 0, 2), LOST);
        Checks.due("29: of the old lane", x.fault(), 2);
        Checks.due("20: longer", x.sheet(0, 0, 4), 1);
        rowIs("20: longer", x, 0, 0, 0, 0, 0, 0);
        Checks.row(x, 0, 0, 1, 2, 3);
        x.lose(0);
        x.sheet(0, 0, 3);
        rowIs("20: behind a lost one", x, 0, 0, 0, 0, 0);
        Checks.row(x, 0, 0, 1, 2, 3);
        x.sheet(0, 0, 0);
        x.sheet(0, 0, 3);
        rowIs("20: behind an empty one", x, 0, 0, 0, 0, 0);
    }

    private static void refusedSheetsKeepTheirRow() {
        ShornHill x = new ShornHill();
        Checks.row(x, 0, 1, 300, -300);
        x.sheet(0, 3, 1);
        x.sheet(0, 0, 61);
        x.sheet(0, 0, -1);
        x.sheet(-1, 0, 1);
        x.sheet(4, 0, 1);
        rowIs("20: refused", x, 0, 1, 300, -300);
    }

    private static void sheetsAreFour() {
        ShornHill x = new ShornHill();
        for (int k = 0; k < 4; k++) {
            Checks.due("20: sheet " + k, x.sheet(k, k % 3, k + 1), 1);
            Checks.due("22: sheet " + k, x.put(k, k, 10 + k), 1);
        }
        rowIs("20: sheet 0", x, 0, 0, 10);
        rowIs("20: sheet 1", x, 1, 1, 0, 11);
        rowIs("20: sheet 2", x, 2, 2, 0, 0, 12);
        rowIs("20: sheet 3", x, 3, 0, 0, 0, 0, 13);
        Checks.due("21: one is lost", x.lose(2), 1);
        rowIs("21: the others stay", x, 1, 1, 0, 11);
        rowIs("21: the others stay", x, 3, 0, 0, 0, 0, 13);
        Checks.due("20: sheet 4", x.sheet(4, 0, 1), -1);
        Checks.due("20: sheet -1", x.sheet(-1, 0, 1), -1);
    }

    private static void lostOnceAndAgain() {
        ShornHill x = new ShornHill();
        for (int k = 0; k < 4; k++) {
            Checks.due("21: it had nothing", x.lose(k), 0);
            x.sheet(k, 0, 0);
            Checks.due("21: it had an empty row", x.lose(k), 1);
            Checks.due("21: it has nothing", x.lose(k), 0);
            x.sheet(k, 2, 60);
            Checks.due("21: it had a long row", x.lose(k), 1);
        }
        Checks.due("21: -1", x.lose(-1), -1);
        Checks.due("21: 4", x.lose(4), -1);
    }

    private static void lostIsNothingForAll() {
        ShornHill x = Checks.told("h1211;gg");
        Checks.row(x, 0, 0, 1);
        x.lose(3);
        Checks.due("2: lost", x.hill(3, 0, 0, 8), -11);
        Checks.due("9: lost", x.path(1, 0, 3, 0, 0, 0, 0), -11);
        Checks.due("22: lost", x.put(3, 0, 1), -11);
        Checks.due("23: lost", x.cell(3, 0, 0), LOST);
        Checks.due("29: lost", x.fault(), 1);
        Checks.due("24: from a lost one", x.copy(3, 0, 0, 0, 1), -11);
        Checks.due("24: to a lost one", x.copy(0, 0, 3, 0, 1), -11);
        Checks.due("30: the hill stays", x.many(0), 2);
    }

    private static void cutIs(int lane, int v, long due) {
        ShornHill x = new ShornHill();
        x.sheet(0, lane, 3);
        Checks.due("22: " + v, x.put(0, 1, v), 1);
        Checks.due("23: " + v + " in lane " + lane, x.cell(0, 1, lane), due);
        Checks.due("23: ahead of it", x.cell(0, 0, lane), 0);
        Checks.due("23: behind it", x.cell(0, 2, lane), 0);
    }

    private static void cutToBytes() {
        int[][] rows = {{0, 0}, {127, 127}, {128, -128}, {129, -127}, {255, -1}, {256, 0}, {257, 1}, {-1, -1},
            {-128, -128}, {-129, 127}, {-256, 0}, {32767, -1}, {32768, 0}, {HIGH, -1}, {LOW, 0}, {65664, -128}};
        for (int[] row : rows) {
            cutIs(0, row[0], row[1]);
        }
    }

    private static void cutToShorts() {
        int[][] rows = {{128, 128}, {256, 256}, {32767, 32767}, {32768, -32768}, {32769, -32767}, {65535, -1},
            {65536, 0}, {65537, 1}, {-32768, -32768}, {-32769, 32767}, {-65536, 0}, {HIGH, -1}, {LOW, 0}};
        for (int[] row : rows) {
            cutIs(1, row[0], row[1]);
        }
    }

    private static void intsAreNotCut() {
        for (int v : new int[] {0, 128, 32768, 65536, -32769, HIGH, LOW, HIGH - 1, LOW + 1}) {
            cutIs(2, v, v);
        }
    }

    private static void putsOfOneCell() {
        ShornHill x = new ShornHill();
        x.sheet(0, 0, 60);
        Checks.due("22: the first", x.put(0, 0, 1), 1);
        Checks.due("22: the last", x.put(0, 59, 2), 1);
        Checks.due("22: behind the last", x.put(0, 60, 3), -13);
        Checks.due("22: ahead of the first", x.put(0, -1, 4), -13);
        for (int i = 0; i < 60; i++) {
            Checks.due("23: cell " + i, x.cell(0, i, 0), i == 0 ? 1 : i == 59 ? 2 : 0);
        }
        Checks.due("22: over it", x.put(0, 59, -2), 1);
        Checks.due("23: over it", x.cell(0, 59, 0), -2);
    }

    private static void cellsAsTheirLaneOnly() {
        for (int lane = 0; lane <= 2; lane++) {
            ShornHill x = new ShornHill();
            Checks.row(x, 2, lane, -100);
            for (int asked = -1; asked <= 3; asked++) {
                boolean isLane = asked >= 0 && asked <= 2;
                Checks.due("23: lane " + lane + " as " + asked, x.cell(2, 0, asked), asked == lane ? -100 : LOST);
                Checks.due("29: lane " + lane + " as " + asked, x.fault(), isLane && asked != lane ? 2 : 0);
            }
        }
    }

    private static void copiedOnAndBackWithinASheet() {
        ShornHill x = new ShornHill();
        Checks.row(x, 0, 0, 1, 2, 3, 4, 5, 6);
        Checks.due("24: one on", x.copy(0, 0, 0, 1, 5), 5);
        rowIs("24: one on", x, 0, 0, 1, 1, 2, 3, 4, 5);
        Checks.due("24: two back", x.copy(0, 2, 0, 0, 4), 4);
        rowIs("24: two back", x, 0, 0, 2, 3, 4, 5, 4, 5);
        Checks.due("24: the middle on", x.copy(0, 1, 0, 3, 3), 3);
        rowIs("24: the middle on", x, 0, 0, 2, 3, 4, 3, 4, 5);
        Checks.due("24: two parts", x.copy(0, 0, 0, 3, 3), 3);
        rowIs("24: two parts", x, 0, 0, 2, 3, 4, 2, 3, 4);
    }

    private static void copiedWhole() {
        ShornHill x = new ShornHill();
        for (int lane = 0; lane <= 2; lane++) {
            x.sheet(0, lane, 60);
            x.sheet(3, lane, 60);
            for (int i = 0; i < 60; i++) {
                x.put(0, i, i - 30);
            }
            Checks.due("24: all 60", x.copy(0, 0, 3, 0, 60), 60);
            for (int i = 0; i < 60; i++) {
                Checks.due("24: cell " + i, x.cell(3, i, lane), i - 30);
            }
            Checks.due("24: 61", x.copy(0, 0, 3, 0, 61), -13);
        }
    }

    private static void copiedNone() {
        ShornHill x = new ShornHill();
        Checks.row(x, 0, 1, 1, 2);
        Checks.row(x, 1, 1, 3, 4, 5);
        x.sheet(2, 1, 0);
        Checks.due("24: none, at the ends", x.copy(0, 2, 1, 3, 0), 0);
        Checks.due("24: none, of an empty one", x.copy(2, 0, 1, 3, 0), 0);
        Checks.due("24: none, to an empty one", x.copy(0, 0, 2, 0, 0), 0);
        Checks.due("24: none, an empty one to itself", x.copy(2, 0, 2, 0, 0), 0);
        Checks.due("29: none is no fault", x.fault(), 0);
        Checks.due("24: none, behind the first's end", x.copy(0, 3, 1, 0, 0), -13);
        Checks.due("24: none, behind the other's end", x.copy(0, 0, 1, 4, 0), -13);
        Checks.due("24: none, behind an empty end", x.copy(2, 1, 1, 0, 0), -13);
        Checks.due("24: none, ahead of the first", x.copy(0, -1, 1, 0, 0), -13);
        Checks.due("24: none, ahead of the other", x.copy(0, 0, 1, -1, 0), -13);
        rowIs("24: none", x, 1, 1, 3, 4, 5);
    }

    private static void copiedOntoItself() {
        ShornHill x = new ShornHill();
        Checks.row(x, 3, 2, 5, LOW, HIGH);
        Checks.due("24: in its place", x.copy(3, 0, 3, 0, 3), 3);
        rowIs("24: in its place", x, 3, 2, 5, LOW, HIGH);
    }

    private static void copiedAsTheyWere() {
        ShornHill x = new ShornHill();
        int[] most = {127, 32767, HIGH};
        for (int lane = 0; lane <= 2; lane++) {
            Checks.row(x, 0, lane, most[lane], -most[lane] - 1, -1);
            x.sheet(1, lane, 3);
            Checks.due("24: lane " + lane, x.copy(0, 0, 1, 0, 3), 3);
            rowIs("24: lane " + lane, x, 1, lane, most[lane], -most[lane] - 1, -1);
        }
    }

    private static void copiedCellsAreTheirOwn() {
        ShornHill x = new ShornHill();
        Checks.row(x, 0, 0, 1, 2);
        x.sheet(1, 0, 2);
        x.copy(0, 0, 1, 0, 2);
        x.put(0, 0, 9);
        x.put(1, 1, 8);
        rowIs("24: the first", x, 0, 0, 9, 2);
        rowIs("24: the other", x, 1, 0, 1, 8);
        x.lose(0);
        rowIs("24: the first is lost", x, 1, 0, 1, 8);
    }

    private static void copiedCellsOnly() {
        ShornHill x = new ShornHill();
        Checks.row(x, 0, 0, 1, 2, 3, 4);
        Checks.row(x, 1, 0, 11, 12, 13, 14, 15);
        Checks.due("24: two", x.copy(0, 2, 1, 1, 2), 2);
        rowIs("24: the first stays", x, 0, 0, 1, 2, 3, 4);
        rowIs("24: two of the other", x, 1, 0, 11, 3, 4, 14, 15);
        Checks.due("24: the last to the last", x.copy(0, 3, 1, 4, 1), 1);
        rowIs("24: the last", x, 1, 0, 11, 3, 4, 14, 4);
    }

    private static void copiedBeyondByOne() {
        ShornHill x = new ShornHill();
        Checks.row(x, 0, 0, 1, 2, 3, 4);
        Checks.row(x, 1, 0, 11, 12, 13);
        Checks.due("24: just all", x.copy(1, 0, 0, 1, 3), 3);
        Checks.due("24: the first ends too soon", x.copy(1, 0, 0, 0, 4), -13);
        Checks.due("24: the first ends too soon, from 1", x.copy(1, 1, 0, 0, 3), -13);
        Checks.due("24: the other ends too soon", x.copy(0, 0, 1, 0, 4), -13);
        Checks.due("24: the other ends too soon, from 1", x.copy(0, 0, 1, 1, 3), -13);
        Checks.due("24: less than none", x.copy(0, 0, 1, 0, -1), -13);
        Checks.due("29: index", x.fault(), 3);
        rowIs("24: only all that can be", x, 0, 0, 1, 11, 12, 13);
        rowIs("24: nothing came", x, 1, 0, 11, 12, 13);
    }

    private static void tellingAtTheEdgesOfEating() {
        ShornHill x = Checks.told("h1431;gso#");
        int[][] due = {{0, 100, 100}, {9, 109, 118}, {1, 101, 102}};
        int[] ate = {0, 9, 1};
        for (int k = 0; k < 3; k++) {
            for (int c = 0; c < 3; c++) {
                x.goats(c, ate[k]);
                Checks.due("25: " + c + " of which goats ate " + ate[k], x.tell(c), due[k][c]);
            }
        }
        Checks.due("25: a thorn", x.tell(3), -1);
    }

    private static void traceIs(String label, ShornHill x, int... bodies) {
        BigInteger all = BigInteger.ZERO;
        for (int body : bodies) {
            all = all.multiply(BigInteger.valueOf(31)).add(BigInteger.valueOf(body));
        }
        Checks.due("28: " + label, x.trace(), all.intValue());
    }

    private static void bodiesInTheirOrder() {
        ShornHill x = Checks.told("h1431;gso#");
        x.tell(0);
        traceIs("grass", x, 1);
        x.tell(1);
        traceIs("spring", x, 1, 2, 1);
        x.tell(2);
        traceIs("hollow", x, 1, 2, 1, 3, 2, 1, 1);
        x.trod(0);
        x.trod(1);
        x.trod(2);
        traceIs("trod", x, 1, 2, 1, 3, 2, 1, 1, 4, 4, 5);
        x.tell(3);
        x.trod(3);
        x.tell(-1);
        x.trod(4);
        traceIs("refused", x, 1, 2, 1, 3, 2, 1, 1, 4, 4, 5);
    }

    private static void trodByNumbers() {
        ShornHill x = Checks.told("h4411;oggs;sggg;#ggg;gggs");
        for (int c = 0; c < 16; c++) {
            Checks.due("26: cell " + c, x.trod(c), c == 0 ? 40 : c == 8 ? -1 : c);
        }
        Checks.due("26: behind the last", x.trod(16), -1);
        ShornHill y = Checks.told("h4411;gggg;gggg;gggg;gggo");
        Checks.due("26: a hollow at the end", y.trod(15), 40);
        Checks.due("28: its own body", y.trace(), 5);
    }

    /** 31 to the seventh is beyond an int. */
    private static void traceWraps() {
        ShornHill x = Checks.told("h1211;go");
        BigInteger all = BigInteger.ZERO;
        int wrapped = 0;
        for (int k = 0; k < 60; k++) {
            x.trod(k % 3 == 0 ? 0 : 1);
            all = all.multiply(BigInteger.valueOf(31)).add(BigInteger.valueOf(k % 3 == 0 ? 4 : 5));
            Checks.due("28: " + k, x.trace(), all.intValue());
            wrapped += all.intValue() < 0 ? 1 : 0;
        }
        Checks.due("28: below 0 at times", wrapped > 10 ? 1 : 0, 1);
        ShornHill y = Checks.told("h1211;go");
        for (int k = 0; k < 6; k++) {
            y.trod(0);
        }
        Checks.due("28: six are within", y.trace(), 118333824);
        y.trod(0);
        Checks.due("28: seven wrap", y.trace(), 3668348548L - (1L << 32));
    }

    private static void traceIsLeftByAllOthers() {
        ShornHill x = Checks.told("h1211;so");
        x.trod(0);
        x.as(1, 0);
        x.as(0, 2);
        x.goats(0, 1);
        x.kinds(0);
        x.whole(0);
        x.stops(9);
        x.odds(9, 0, 0);
        x.reading(0, 0, 0);
        x.hill(3, 0, 0, 8);
        x.lose(3);
        Checks.due("28: one body", x.trace(), 4);
        x.trod(0);
        Checks.due("28: two bodies, two hills", x.trace(), 4 * 31 + 4);
    }

    private static void kindsThatAreOthers() {
        ShornHill x = Checks.told("h1411;gso#");
        int[][] due = {{-1, 0, 0, 0}, {1, -12, -12, -2}, {1, 1, -12, -2}, {1, 1, 1, -2}};
        for (int c = 0; c < 3; c++) {
            for (int kind = 0; kind <= 3; kind++) {
                Checks.due("27: " + c + " as " + kind, x.as(c, kind), due[c + 1][kind]);
                Checks.due("29: " + c + " as " + kind, x.fault(), due[c + 1][kind] == -12 ? 2 : 0);
            }
            Checks.due("27: " + c + " as -1", x.as(c, -1), -2);
        }
        Checks.due("27: a thorn", x.as(3, 0), -1);
        Checks.due("27: a thorn as a thorn", x.as(3, 3), -1);
        Checks.due("27: behind the last", x.as(4, 0), -1);
        Checks.due("28: no body", x.trace(), 0);
    }

    private static void faultOfTheLatestCallThatNamesOne() {
        ShornHill x = Checks.told("h1211;gg");
        Checks.due("29: none yet", x.fault(), 0);
        x.put(0, 0, 0);
        Checks.due("29: null", x.fault(), 1);
        x.cell(3, 0, 1);
        Checks.due("29: cast", x.fault(), 2);
        x.put(3, 8, 0);
        Checks.due("29: index", x.fault(), 3);
        x.sheet(3, 0, -1);
        Checks.due("29: size", x.fault(), 4);
        x.fault();
        x.trace();
        x.many(0);
        x.lose(0);
        x.odds(1, 0, 0);
        Checks.due("29: it stays", x.fault(), 4);
        x.hill(3, 0, 0, 7);
        Checks.due("29: a text that is none", x.fault(), 0);
        x.copy(0, 0, 3, 0, 0);
        Checks.due("29: null again", x.fault(), 1);
        x.path(1, 0, 3, 0, 0, 1, 0);
        Checks.due("29: a path of no stroke", x.fault(), 0);
        x.as(0, 1);
        Checks.due("29: cast again", x.fault(), 2);
        x.path(1, 0, 3, 0, 0, 0, 0);
        Checks.due("29: a path", x.fault(), 0);
    }

    private static void faultIsNotOfRefusals() {
        ShornHill x = Checks.told("h1211;gg");
        x.as(0, 1);
        x.goats(9, 9);
        x.pace(9);
        x.breadth(0);
        x.coat(9, 9);
        x.ripe(10);
        x.fleece(0, 0, 0);
        x.start(10);
        x.whole(9);
        x.stops(10);
        x.reading(0, 0, 10);
        x.back(1);
        x.kinds(2);
        x.eatings(2);
        x.odds(0, 0, 0);
        x.lose(9);
        x.tell(9);
        x.trod(9);
        x.many(9);
        x.ofCell(9, 9);
        Checks.due("29: refusals of calls that name none", x.fault(), 2);
        x.as(0, 3);
        Checks.due("29: a refusal of one that names them", x.fault(), 0);
    }

    private static void manyOfAll() {
        ShornHill x = Checks.told("h4239;g#;##;os;#g");
        x.reading(0, 0, 0);
        int[] due = {8, 2, 3, 9, 4, 1};
        for (int what = 0; what <= 5; what++) {
            Checks.due("30: " + what, x.many(what), due[what]);
        }
        Checks.due("30: -1", x.many(-1), -2);
        Checks.due("30: 6", x.many(6), -2);
        x.back(1);
        x.pace(1);
        x.breadth(1);
        int[] later = {8, 2, 1, 1, 4, 0};
        for (int what = 0; what <= 5; what++) {
            Checks.due("30: later " + what, x.many(what), later[what]);
        }
    }

    private static void manyWithoutAHill() {
        ShornHill x = new ShornHill();
        Checks.tellText(x, "h4239;g#;##;os;#");
        x.pace(2);
        x.breadth(2);
        x.reading(0, 0, 0);
        for (int what = 0; what <= 5; what++) {
            Checks.due("30: no hill " + what, x.many(what), 0);
        }
        Checks.due("30: no hill -1", x.many(-1), -2);
        Checks.due("30: no hill 6", x.many(6), -2);
    }

    /** 512 calls: 15 of the text, 124 turns of 4, and a last look. */
    private static void allCallsOfAnObject() {
        ShornHill x = new ShornHill();
        Checks.tellText(x, "h2311;gso;#sg");
        BigInteger all = BigInteger.ZERO;
        for (int k = 0; k < 124; k++) {
            Checks.due("14: turn " + k, x.reading(0, k % 10, k % 10), 0);
            Checks.due("16: turn " + k, x.kinds(0), k % 10 % 9 == 0 ? 7 : 1);
            Checks.due("15: turn " + k, x.back(1), 0);
            Checks.due("25: turn " + k, x.tell(1), 100);
            all = all.multiply(BigInteger.valueOf(961)).add(BigInteger.valueOf(63));
        }
        Checks.due("28: at last", x.trace(), all.intValue());
    }

    private static void objectsAreTheirOwn() {
        ShornHill x = Checks.told("h1219;gg");
        ShornHill y = Checks.told("h2331;ooo;ooo");
        x.goats(0, 3);
        x.reading(0, 1, 1);
        x.tell(0);
        y.as(0, 2);
        x.put(2, 0, 0);
        Checks.due("1: cells", y.many(0), 6);
        Checks.due("1: goats", y.ofCell(0, 2), 0);
        Checks.due("1: readings", y.many(5), 0);
        Checks.due("1: trace", y.trace(), 0);
        Checks.due("1: fault", y.fault(), 0);
        Checks.due("1: fleece", y.fleece(1, 0, -1), 6);
        Checks.due("1: fleece of the first", x.fleece(9, 1, -1), 1);
        Checks.due("1: fleece stays", y.fleece(1, 0, 4), 3);
        Checks.due("1: a new one", new ShornHill().many(0), 0);
    }
}
