/** Promise 9: paths that are told. */
public final class PathTest {
    public static void main(String[] args) {
        paths();
        wrongStrokes();
        refusals();
        faults();
        Checks.end();
    }

    private static void asked(ShornHill x, int weeks, int c, String strokes, int... due) {
        Checks.strokes(x, 0, strokes);
        for (int what = 0; what < 4; what++) {
            int got = x.path(weeks, c, 0, 0, 0, strokes.length(), what);
            Checks.due("9: from " + c + " " + strokes + " what " + what, got, due[what]);
        }
        Checks.due("9: no fault", x.fault(), 0);
    }

    private static void paths() {
        ShornHill x = Checks.told("h3313;gso;g#g;ggg");
        asked(x, 9, 0, "", 0, -9, 1, 9);
        asked(x, 9, 0, "112233", 6, -9, 1 + 2 + 4 + 32 + 256 + 128 + 64, 63);
        asked(x, 3, 0, "1122330", 3, -9, 511 - 16, 3 + 6 + 9 + 3 + 3 + 3 + 3 + 3);
        asked(x, 1, 2, "", 2, -9, 4, 4);
        asked(x, 9, 6, "00", 0, -9, 1 + 8 + 64, 27);
    }

    private static void wrongStrokes() {
        ShornHill x = Checks.told("h3313;gso;g#g;ggg");
        asked(x, 9, 0, "0", -100, 0, -100, -100);
        asked(x, 9, 0, "3", -100, 0, -100, -100);
        asked(x, 9, 8, "2", -100, 0, -100, -100);
        asked(x, 9, 8, "1", -100, 0, -100, -100);
        asked(x, 9, 2, "1", -100, 0, -100, -100);
        asked(x, 9, 3, "3", -100, 0, -100, -100);
        asked(x, 9, 3, "1", -100, 0, -100, -100);
        asked(x, 9, 0, "12", -101, 1, -101, -101);
        asked(x, 9, 0, "13", -101, 1, -101, -101);
        asked(x, 9, 0, "1131", -102, 2, -102, -102);
        asked(x, 2, 1, "13", -101, 1, -101, -101);
        asked(x, 2, 1, "3", -100, 0, -100, -100);
        asked(x, 9, 0, "11223300000000000000", -107, 7, -107, -107);
    }

    private static void refusals() {
        ShornHill x = Checks.told("h3313;gso;g#g;ggg");
        x.sheet(0, 0, 60);
        Checks.due("9: cell below", x.path(10, -1, 0, 0, 0, 0, 0), -1);
        Checks.due("9: cell above", x.path(10, 9, 0, 0, 0, 0, 0), -1);
        Checks.due("9: sheet below", x.path(10, 0, -1, 0, 0, 0, 0), -1);
        Checks.due("9: sheet above", x.path(10, 0, 4, 0, 0, 0, 0), -1);
        Checks.due("9: weeks below", x.path(-1, 4, 0, 0, 0, 0, 0), -2);
        Checks.due("9: weeks above", x.path(10, 4, 0, 0, 0, 0, 0), -2);
        Checks.due("9: lane below", x.path(9, 4, 0, -1, 0, 0, 0), -2);
        Checks.due("9: lane above", x.path(9, 4, 0, 3, 0, 0, 0), -2);
        Checks.due("9: n below", x.path(9, 4, 0, 0, 0, -1, 0), -2);
        Checks.due("9: n above", x.path(9, 4, 0, 0, 0, 21, 0), -2);
        Checks.due("9: what below", x.path(9, 4, 0, 0, 0, 0, -1), -2);
        Checks.due("9: what above", x.path(9, 4, 0, 0, 0, 0, 4), -2);
        Checks.due("9: thorn", x.path(9, 4, 1, 1, 0, 0, 0), -3);
        Checks.due("9: not ripe", x.path(2, 0, 0, 1, -1, 0, 0), -3);
        Checks.due("9: refused is no fault", x.fault(), 0);
        x.put(0, 0, 3);
        x.put(0, 1, 4);
        Checks.due("9: no stroke behind the wrong one", x.path(9, 0, 0, 0, 0, 2, 1), -2);
        Checks.due("9: it is not taken", x.path(9, 0, 0, 0, 0, 1, 1), 0);
        x.put(0, 1, -1);
        Checks.due("9: no stroke below", x.path(9, 0, 0, 0, 1, 1, 1), -2);
        Checks.due("9: from where it is none", x.path(9, 0, 0, 0, 2, 20, 1), 0);
    }

    private static void faults() {
        ShornHill x = Checks.told("h3313;gso;g#g;ggg");
        Checks.due("9: nothing", x.path(9, 0, 2, 2, -1, 0, 0), -11);
        Checks.due("9: fault", x.fault(), 1);
        x.sheet(2, 1, 3);
        Checks.due("9: cast", x.path(9, 0, 2, 2, -1, 0, 0), -12);
        Checks.due("9: fault", x.fault(), 2);
        Checks.due("9: index", x.path(9, 0, 2, 1, -1, 0, 0), -13);
        Checks.due("9: index", x.path(9, 0, 2, 1, 4, 0, 0), -13);
        Checks.due("9: index", x.path(9, 0, 2, 1, 1, 3, 1), -13);
        Checks.due("9: index", x.path(9, 0, 2, 1, Integer.MAX_VALUE, 20, 1), -13);
        Checks.due("9: fault", x.fault(), 3);
        x.put(2, 2, 7);
        Checks.due("9: index ahead of no stroke", x.path(9, 0, 2, 1, 2, 2, 1), -13);
        Checks.due("9: at the end", x.path(9, 0, 2, 1, 3, 0, 0), 0);
        Checks.due("9: no fault", x.fault(), 0);
        x.put(2, 0, 1);
        x.put(2, 1, 1);
        Checks.due("9: shorts", x.path(9, 0, 2, 1, 0, 2, 0), 2);
    }
}
