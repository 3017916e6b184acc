/** Counts answers that are not as due, and tells texts to hills. */
final class Checks {
    private static int wrong = 0;

    private Checks() {
    }

    static void due(String call, long got, long want) {
        if (got != want) {
            wrong++;
            System.out.println(call + " answered " + got + ", due is " + want);
        }
    }

    /** Ends the test: with exit code 1, if an answer was not as due. */
    static void end() {
        System.out.println(wrong == 0 ? "all answers are as due" : wrong + " answers are not as due");
        if (wrong != 0) {
            System.exit(1);
        }
    }

    /** A new object with a hill by a text, which stands on sheet 3 then. */
    static ShornHill told(String text) {
        ShornHill x = new ShornHill();
        if (tellText(x, text) < 0) {
            due("told " + text, -1, 0);
        }
        return x;
    }

    static int tellText(ShornHill x, String text) {
        write(x, 3, 0, text);
        return x.hill(3, 0, 0, text.length());
    }

    static void write(ShornHill x, int sheet, int lane, String text) {
        x.sheet(sheet, lane, text.length());
        for (int i = 0; i < text.length(); i++) {
            x.put(sheet, i, text.charAt(i));
        }
    }

    /** A sheet gets a new row of a lane, of these numbers. */
    static void row(ShornHill x, int sheet, int lane, int... values) {
        x.sheet(sheet, lane, values.length);
        for (int i = 0; i < values.length; i++) {
            x.put(sheet, i, values[i]);
        }
    }

    /** A sheet of bytes gets strokes, told as digits. */
    static void strokes(ShornHill x, int sheet, String digits) {
        x.sheet(sheet, 0, digits.length());
        for (int i = 0; i < digits.length(); i++) {
            x.put(sheet, i, digits.charAt(i) - '0');
        }
    }
}
