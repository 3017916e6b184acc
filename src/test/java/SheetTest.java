/** Promises 20 to 30: sheets, copies, bodies that tell, trace, fault, many. */
public final class SheetTest {
    private static final long LOST = ShornHill.LOST;

    public static void main(String[] args) {
        sheets();
        puts();
        cells();
        copies();
        copyFaults();
        tellings();
        kindsAsOthers();
        faults();
        manies();
        Checks.end();
    }

    private static void sheets() {
        ShornHill x = new ShornHill();
        Checks.due("20: below", x.sheet(-1, 3, 61), -1);
        Checks.due("20: above", x.sheet(4, 0, 0), -1);
        Checks.due("20: lane below", x.sheet(0, -1, -1), -2);
        Checks.due("20: lane above", x.sheet(0, 3, -1), -2);
        Checks.due("20: too long", x.sheet(0, 0, 61), -2);
        Checks.due("20: refused is no fault", x.fault(), 0);
        Checks.due("20: size", x.sheet(0, 0, -1), -14);
        Checks.due("20: fault", x.fault(), 4);
        Checks.due("20: nothing came", x.lose(0), 0);
        Checks.due("20: longest", x.sheet(0, 0, 60), 1);
        Checks.due("20: fault is gone", x.fault(), 0);
        x.put(0, 0, 5);
        x.put(0, 59, 6);
        Checks.due("20: last", x.cell(0, 59, 0), 6);
        Checks.due("20: a fault leaves it", x.sheet(0, 1, -5), -14);
        Checks.due("20: it is left", x.cell(0, 0, 0), 5);
        Checks.due("20: a new row", x.sheet(0, 2, 60), 1);
        Checks.due("20: is 0 at first", x.cell(0, 0, 2), 0);
        Checks.due("20: is 0 at last", x.cell(0, 59, 2), 0);
        Checks.due("20: empty", x.sheet(0, 1, 0), 1);
        Checks.due("20: empty", x.cell(0, 0, 1), LOST);
        Checks.due("21: below", x.lose(-1), -1);
        Checks.due("21: above", x.lose(4), -1);
        Checks.due("21: had", x.lose(0), 1);
        Checks.due("21: had not", x.lose(0), 0);
        Checks.due("21: fault stays", x.fault(), 3);
        x.sheet(0, 1, 2);
        Checks.due("21: anew", x.cell(0, 0, 1), 0);
    }

    private static void puts() {
        ShornHill x = new ShornHill();
        Checks.due("22: below", x.put(-1, 0, 0), -1);
        Checks.due("22: above", x.put(4, 0, 0), -1);
        Checks.due("22: nothing", x.put(1, -1, 0), -11);
        Checks.due("22: fault", x.fault(), 1);
        int[] values = {127, 128, -129, 32768, -32769, Integer.MAX_VALUE, Integer.MIN_VALUE, 70001};
        for (int v : values) {
            putAndCut(x, 0, v, (byte) v);
            putAndCut(x, 1, v, (short) v);
            putAndCut(x, 2, v, v);
        }
        Checks.due("22: index below", x.put(1, -1, 9), -13);
        Checks.due("22: index above", x.put(1, 3, 9), -13);
        Checks.due("22: fault", x.fault(), 3);
        Checks.due("22: put", x.put(1, 2, 9), 1);
        Checks.due("22: no fault", x.fault(), 0);
    }

    private static void putAndCut(ShornHill x, int lane, int v, long due) {
        x.sheet(1, lane, 3);
        Checks.due("22: put " + v, x.put(1, 1, v), 1);
        Checks.due("22: lane " + lane + " of " + v, x.cell(1, 1, lane), due);
        Checks.due("22: its neighbour", x.cell(1, 0, lane) + x.cell(1, 2, lane), 0);
    }

    private static void cells() {
        ShornHill x = new ShornHill();
        cellFails(x, "23: sheet below", -1, 0, 0, 0);
        cellFails(x, "23: sheet above", 4, 0, 0, 0);
        cellFails(x, "23: lane below", 0, 0, -1, 0);
        cellFails(x, "23: lane above", 0, 0, 3, 0);
        cellFails(x, "23: nothing", 0, -1, 0, 1);
        x.sheet(0, 1, 2);
        cellFails(x, "23: cast", 0, -1, 0, 2);
        cellFails(x, "23: cast", 0, 0, 2, 2);
        cellFails(x, "23: index below", 0, -1, 1, 3);
        cellFails(x, "23: index above", 0, 2, 1, 3);
        x.put(0, 1, -7);
        Checks.due("23: it", x.cell(0, 1, 1), -7);
        Checks.due("23: no fault", x.fault(), 0);
    }

    private static void cellFails(ShornHill x, String what, int k, int i, int lane, int fault) {
        Checks.due(what, x.cell(k, i, lane), LOST);
        Checks.due(what + ", fault", x.fault(), fault);
    }

    private static void copies() {
        ShornHill x = new ShornHill();
        x.sheet(0, 1, 5);
        for (int i = 0; i < 5; i++) {
            x.put(0, i, i + 1);
        }
        x.sheet(2, 1, 3);
        Checks.due("24: to another", x.copy(0, 1, 2, 0, 3), 3);
        row(x, 2, 1, 2, 3, 4);
        row(x, 0, 1, 1, 2, 3, 4, 5);
        x.put(2, 0, 100);
        row(x, 0, 1, 1, 2, 3, 4, 5);
        Checks.due("24: on", x.copy(0, 0, 0, 1, 4), 4);
        row(x, 0, 1, 1, 1, 2, 3, 4);
        Checks.due("24: back", x.copy(0, 1, 0, 0, 4), 4);
        row(x, 0, 1, 1, 2, 3, 4, 4);
        Checks.due("24: none", x.copy(0, 5, 2, 3, 0), 0);
        Checks.due("24: no fault", x.fault(), 0);
    }

    private static void row(ShornHill x, int k, int lane, int... due) {
        for (int i = 0; i < due.length; i++) {
            Checks.due("24: cell " + i, x.cell(k, i, lane), due[i]);
        }
    }

    private static void copyFaults() {
        ShornHill x = new ShornHill();
        x.sheet(0, 1, 5);
        Checks.due("24: from below", x.copy(-1, 0, 0, 0, 0), -1);
        Checks.due("24: from above", x.copy(4, 0, 0, 0, 0), -1);
        Checks.due("24: to below", x.copy(1, 0, -1, 0, 0), -1);
        Checks.due("24: to above", x.copy(1, 0, 4, 0, 0), -1);
        Checks.due("24: refused is no fault", x.fault(), 0);
        Checks.due("24: from nothing", x.copy(1, -1, 0, 0, 0), -11);
        Checks.due("24: to nothing", x.copy(0, -1, 1, 0, 0), -11);
        Checks.due("24: fault", x.fault(), 1);
        x.sheet(1, 2, 5);
        Checks.due("24: cast", x.copy(0, -1, 1, 0, 0), -12);
        Checks.due("24: fault", x.fault(), 2);
        x.sheet(1, 1, 3);
        int[][] wrong = {{-1, 0, 0}, {0, -1, 0}, {0, 0, -1}, {6, 0, 0}, {0, 4, 0}, {3, 0, 3}, {0, 1, 3},
            {0, 0, 4}, {1, 0, Integer.MAX_VALUE}, {Integer.MAX_VALUE, 0, 1}, {0, Integer.MAX_VALUE, 1}};
        for (int[] w : wrong) {
            Checks.due("24: index", x.copy(0, w[0], 1, w[1], w[2]), -13);
            Checks.due("24: fault", x.fault(), 3);
        }
    }

    private static void tellings() {
        ShornHill x = Checks.told("h2211;gs;o#");
        for (int c = 0; c < 3; c++) {
            x.goats(c, c + 3);
        }
        int trace = 0;
        Checks.due("25: grass", x.tell(0), 3);
        trace = begun(x, trace, 1);
        Checks.due("25: spring", x.tell(1), 104);
        trace = begun(x, trace, 2, 1);
        Checks.due("25: hollow", x.tell(2), 110);
        trace = begun(x, trace, 3, 2, 1, 1);
        Checks.due("26: grass", x.trod(0), 0);
        trace = begun(x, trace, 4);
        Checks.due("26: spring", x.trod(1), 1);
        trace = begun(x, trace, 4);
        Checks.due("26: hollow", x.trod(2), 40);
        trace = begun(x, trace, 5);
        int[] unknown = {-1, 3, 4};
        for (int c : unknown) {
            Checks.due("25: " + c, x.tell(c), -1);
            Checks.due("26: " + c, x.trod(c), -1);
        }
        begun(x, trace);
    }

    private static int begun(ShornHill x, int trace, int... bodies) {
        int now = trace;
        for (int body : bodies) {
            now = 31 * now + body;
        }
        Checks.due("28: trace", x.trace(), now);
        return now;
    }

    private static void kindsAsOthers() {
        ShornHill x = Checks.told("h2211;gs;o#");
        int[][] due = {{1, -12, -12}, {1, 1, -12}, {1, 1, 1}};
        for (int c = 0; c < 3; c++) {
            for (int kind = 0; kind < 3; kind++) {
                Checks.due("27: " + c + " as " + kind, x.as(c, kind), due[c][kind]);
                Checks.due("29: fault", x.fault(), due[c][kind] == 1 ? 0 : 2);
            }
        }
        Checks.due("27: kind below", x.as(0, -1), -2);
        Checks.due("27: kind above", x.as(0, 3), -2);
        Checks.due("27: below", x.as(-1, 3), -1);
        Checks.due("27: thorn", x.as(3, 3), -1);
        Checks.due("27: above", x.as(4, 3), -1);
        Checks.due("28: no body begins", x.trace(), 0);
    }

    /** Calls that name no faults leave it; calls that name some begin anew. */
    private static void faults() {
        ShornHill x = Checks.told("h2211;gs;o#");
        Checks.due("29: a fault", x.as(0, 2), -12);
        x.ofCell(0, 0);
        x.goats(-1, 0);
        x.pace(9);
        x.breadth(9);
        x.coat(0, 0);
        x.ripe(0);
        x.fleece(9, 0, 0);
        x.start(0);
        x.whole(0);
        x.stops(0);
        x.reading(0, 0, 0);
        x.back(1);
        x.kinds(0);
        x.paces();
        x.eatings(0);
        x.odds(9, 9, 9);
        x.lose(0);
        x.tell(0);
        x.trod(0);
        x.trace();
        x.many(0);
        Checks.due("29: it stays", x.fault(), 2);
        Checks.due("29: it stays", x.fault(), 2);
        x.as(-1, 0);
        Checks.due("29: refused", x.fault(), 0);
        for (int k = 0; k < 7; k++) {
            Checks.due("29: a fault", x.as(0, 2), -12);
            refuse(x, k);
            Checks.due("29: refused, call " + k, x.fault(), 0);
        }
    }

    private static void refuse(ShornHill x, int k) {
        switch (k) {
            case 0: x.hill(9, 0, 0, 0); break;
            case 1: x.path(9, 9, 0, 0, 0, 0, 0); break;
            case 2: x.sheet(9, 0, 0); break;
            case 3: x.put(9, 0, 0); break;
            case 4: x.cell(9, 0, 0); break;
            case 5: x.copy(9, 0, 0, 0, 0); break;
            default: x.as(9, 0); break;
        }
    }

    private static void manies() {
        ShornHill x = Checks.told("h3227;g#;so;##");
        x.reading(0, 0, 0);
        x.reading(0, 0, 0);
        int[] due = {6, 2, 2, 7, 3, 2};
        for (int what = 0; what < due.length; what++) {
            Checks.due("30: " + what, x.many(what), due[what]);
        }
        Checks.due("30: below", x.many(-1), -2);
        Checks.due("30: above", x.many(6), -2);
        Checks.due("30: above, no hill", new ShornHill().many(6), -2);
    }
}
