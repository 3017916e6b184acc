/** Part 2, strokes and paths; promise 9 at its edges. */
public final class PathEdgeTest {
    private static final String FULL = "h4431;gggg;gggg;gggg;gggg";
    /** From cell 0 to and fro, down by one at each end: all 16 cells. */
    private static final String ALL = "111233321112333";

    public static void main(String[] args) {
        fourStrokes();
        offTheHillAtEachBorder();
        offTheHillOfOneRow();
        offTheHillOfTwoColumns();
        whereItBeginsIsShornFirst();
        toAThorn();
        toACellThatIsNotRipe();
        toACellThatIsShorn();
        theFirstWrongOfSeveral();
        aWrongOneAtTheEnd();
        fifteenStrokesShearAll();
        theSixteenthCanNotBe();
        twentyStrokesAndNoMore();
        noStrokes();
        coatsTogether();
        whatIsAskedOfAWrongOne();
        noStrokeBehindTheFirstWrong();
        cellsBesideThePathAreNotLookedAt();
        strokesByTheirNumbersOnly();
        strokesCutToTheirLane();
        strokesOfEachSheetAndLane();
        ripeThenIsWhatCounts();
        nothingIsShornByAsking();
        Checks.end();
    }

    private static int asked(ShornHill x, int weeks, int c, String strokes, int what) {
        Checks.strokes(x, 0, strokes);
        int got = x.path(weeks, c, 0, 0, 0, strokes.length(), what);
        Checks.due("29: fault of a path " + strokes, x.fault(), 0);
        return got;
    }

    private static void wrongAt(ShornHill x, int weeks, int c, String strokes, int place) {
        String label = "9: from " + c + " by " + strokes + " behind " + weeks + ", what ";
        Checks.due(label + 1, asked(x, weeks, c, strokes, 1), place);
        for (int what = 0; what <= 3; what += what == 0 ? 2 : 1) {
            Checks.due(label + what, asked(x, weeks, c, strokes, what), -100 - place);
        }
    }

    private static void leadsTo(ShornHill x, int weeks, int c, String strokes, int to) {
        String label = "9: from " + c + " by " + strokes + " behind " + weeks;
        Checks.due(label, asked(x, weeks, c, strokes, 0), to);
        Checks.due(label + ", none is wrong", asked(x, weeks, c, strokes, 1), -9);
    }

    private static void fourStrokes() {
        ShornHill x = Checks.told(FULL);
        int[] to = {1, 6, 9, 4};
        for (int stroke = 0; stroke < 4; stroke++) {
            leadsTo(x, 1, 5, "" + stroke, to[stroke]);
            Checks.due("9: shorn by " + stroke, asked(x, 1, 5, "" + stroke, 2), (1 << 5) + (1 << to[stroke]));
        }
    }

    private static void offTheHillAtEachBorder() {
        ShornHill x = Checks.told(FULL);
        for (int k = 0; k < 4; k++) {
            wrongAt(x, 1, k, "0", 0);
            wrongAt(x, 1, 4 * k + 3, "1", 0);
            wrongAt(x, 1, 12 + k, "2", 0);
            wrongAt(x, 1, 4 * k, "3", 0);
        }
    }

    private static void offTheHillOfOneRow() {
        ShornHill x = Checks.told("h1231;gg");
        for (int c = 0; c < 2; c++) {
            wrongAt(x, 1, c, "0", 0);
            wrongAt(x, 1, c, "2", 0);
            leadsTo(x, 1, c, c == 0 ? "1" : "3", 1 - c);
            wrongAt(x, 1, c, c == 0 ? "3" : "1", 0);
        }
    }

    private static void offTheHillOfTwoColumns() {
        ShornHill x = Checks.told("h4231;gg;gg;gg;gg");
        wrongAt(x, 1, 1, "1", 0);
        wrongAt(x, 1, 2, "3", 0);
        wrongAt(x, 1, 7, "2", 0);
        wrongAt(x, 1, 7, "1", 0);
        leadsTo(x, 1, 7, "000", 1);
    }

    private static void whereItBeginsIsShornFirst() {
        ShornHill x = Checks.told(FULL);
        wrongAt(x, 1, 0, "13", 1);
        wrongAt(x, 1, 0, "1230", 3);
        Checks.due("9: it is shorn", asked(x, 1, 9, "", 2), 1 << 9);
    }

    private static void toAThorn() {
        ShornHill x = Checks.told("h3331;ggg;g#g;ggg");
        wrongAt(x, 9, 1, "2", 0);
        wrongAt(x, 9, 3, "1", 0);
        wrongAt(x, 9, 5, "3", 0);
        wrongAt(x, 9, 7, "0", 0);
        wrongAt(x, 9, 0, "12", 1);
    }

    private static void toACellThatIsNotRipe() {
        ShornHill x = Checks.told("h1312;ggs");
        wrongAt(x, 1, 2, "3", 0);
        leadsTo(x, 2, 2, "33", 0);
        x.goats(0, 1);
        wrongAt(x, 2, 2, "33", 1);
        leadsTo(x, 3, 2, "33", 0);
    }

    private static void toACellThatIsShorn() {
        ShornHill x = Checks.told(FULL);
        wrongAt(x, 1, 5, "11330", 2);
        wrongAt(x, 1, 5, "0123", 3);
        wrongAt(x, 1, 10, "123301", 5);
        leadsTo(x, 1, 10, "12330", 9);
    }

    private static void theFirstWrongOfSeveral() {
        ShornHill x = Checks.told(FULL);
        wrongAt(x, 1, 0, "0000", 0);
        wrongAt(x, 1, 0, "1010", 1);
        wrongAt(x, 1, 0, "11330", 2);
        wrongAt(x, 1, 0, "1111", 3);
    }

    private static void aWrongOneAtTheEnd() {
        ShornHill x = Checks.told(FULL);
        wrongAt(x, 1, 0, "1110", 3);
        leadsTo(x, 1, 0, "111", 3);
    }

    private static void fifteenStrokesShearAll() {
        ShornHill x = Checks.told(FULL);
        leadsTo(x, 1, 0, ALL, 12);
        Checks.due("9: all 16", asked(x, 1, 0, ALL, 2), 65535);
        Checks.due("9: 16 of 3", asked(x, 1, 0, ALL, 3), 48);
        Checks.due("9: 16 of 9", asked(x, 3, 0, ALL, 3), 144);
        Checks.due("9: 16 of 9, no more", asked(x, 9, 0, ALL, 3), 144);
    }

    private static void theSixteenthCanNotBe() {
        ShornHill x = Checks.told(FULL);
        for (int stroke = 0; stroke < 4; stroke++) {
            wrongAt(x, 1, 0, ALL + stroke, 15);
        }
    }

    private static void twentyStrokesAndNoMore() {
        ShornHill x = Checks.told(FULL);
        wrongAt(x, 1, 0, ALL + "00000", 15);
        Checks.strokes(x, 0, ALL + "000000");
        for (int what = 0; what <= 3; what++) {
            Checks.due("9: 21, what " + what, x.path(1, 0, 0, 0, 0, 21, what), -2);
            Checks.due("9: -1, what " + what, x.path(1, 0, 0, 0, 0, -1, what), -2);
            Checks.due("9: 20, what " + what, x.path(1, 0, 0, 0, 0, 20, what), what == 1 ? 15 : -115);
        }
    }

    private static void noStrokes() {
        ShornHill x = Checks.told("h2231;gs;#o");
        x.sheet(0, 0, 0);
        x.sheet(1, 2, 60);
        int[] due = {3, -9, 8, 8};
        for (int what = 0; what <= 3; what++) {
            Checks.due("9: of an empty row, what " + what, x.path(1, 3, 0, 0, 0, 0, what), due[what]);
            Checks.due("9: at the end of a row, what " + what, x.path(1, 3, 1, 2, 60, 0, what), due[what]);
            Checks.due("9: behind its end, what " + what, x.path(1, 3, 1, 2, 61, 0, what), -13);
            Checks.due("9: ahead of it, what " + what, x.path(1, 3, 1, 2, -1, 0, what), -13);
        }
    }

    private static void coatsTogether() {
        ShornHill x = Checks.told("h1411;gsog");
        x.goats(3, 1);
        Checks.due("9: 1 and 2 and 4", asked(x, 1, 0, "11", 3), 7);
        Checks.due("9: 2 and 4 and 8 and 1", asked(x, 2, 0, "111", 3), 15);
        Checks.due("9: 4 and 9 (of 16) and 3", asked(x, 4, 1, "11", 3), 8 + 9 + 3);
        Checks.due("9: one alone", asked(x, 2, 3, "", 3), 1);
    }

    private static void whatIsAskedOfAWrongOne() {
        ShornHill x = Checks.told(FULL);
        Checks.strokes(x, 0, "110");
        int[] due = {-102, 2, -102, -102};
        for (int what = 0; what <= 3; what++) {
            Checks.due("9: what " + what, x.path(1, 0, 0, 0, 0, 3, what), due[what]);
        }
        Checks.due("9: what -1", x.path(1, 0, 0, 0, 0, 3, -1), -2);
        Checks.due("9: what 4", x.path(1, 0, 0, 0, 0, 3, 4), -2);
    }

    private static void noStrokeBehindTheFirstWrong() {
        ShornHill x = Checks.told(FULL);
        for (int v : new int[] {4, -1, 5, 127, -128}) {
            Checks.row(x, 0, 0, 0, 0, v);
            for (int what = 0; what <= 3; what++) {
                Checks.due("9: " + v + " behind it, what " + what, x.path(1, 0, 0, 0, 0, 3, what), -2);
                Checks.due("29: is no fault", x.fault(), 0);
                Checks.due("9: " + v + " alone, what " + what, x.path(1, 0, 0, 0, 2, 1, what), -2);
            }
        }
    }

    private static void cellsBesideThePathAreNotLookedAt() {
        ShornHill x = Checks.told(FULL);
        Checks.row(x, 0, 0, 9, 1, 2, 9);
        Checks.due("9: from 1 on, two", x.path(1, 0, 0, 0, 1, 2, 0), 5);
        Checks.due("9: from 0 on", x.path(1, 0, 0, 0, 0, 2, 0), -2);
        Checks.due("9: three", x.path(1, 0, 0, 0, 1, 3, 0), -2);
        Checks.due("9: from 2 on, one", x.path(1, 0, 0, 0, 2, 1, 0), 4);
    }

    private static void strokesByTheirNumbersOnly() {
        ShornHill x = Checks.told(FULL);
        for (int v : new int[] {'0', '3', -1, 4, 256, 65536, 1 << 31, -4}) {
            Checks.row(x, 0, 2, v);
            Checks.due("9: " + v + " is none", x.path(1, 5, 0, 2, 0, 1, 1), -2);
        }
        for (int v = 0; v < 4; v++) {
            Checks.row(x, 0, 2, v);
            Checks.due("9: " + v + " is one", x.path(1, 5, 0, 2, 0, 1, 1), -9);
        }
    }

    private static void strokesCutToTheirLane() {
        ShornHill x = Checks.told(FULL);
        Checks.row(x, 0, 0, 256 + 1);
        Checks.due("9: cut to a byte", x.path(1, 5, 0, 0, 0, 1, 0), 6);
        Checks.row(x, 0, 1, 256 + 1);
        Checks.due("9: no byte", x.path(1, 5, 0, 1, 0, 1, 0), -2);
        Checks.row(x, 0, 1, 65536 + 2);
        Checks.due("9: cut to a short", x.path(1, 5, 0, 1, 0, 1, 0), 9);
        Checks.row(x, 0, 2, 65536 + 2);
        Checks.due("9: no short", x.path(1, 5, 0, 2, 0, 1, 0), -2);
    }

    private static void strokesOfEachSheetAndLane() {
        for (int k = 0; k < 4; k++) {
            for (int lane = 0; lane <= 2; lane++) {
                ShornHill x = Checks.told(FULL);
                Checks.row(x, k, lane, 1, 2);
                for (int other = 0; other <= 2; other++) {
                    Checks.due("9: sheet " + k + ", lane " + lane + " as " + other,
                        x.path(1, 0, k, other, 0, 2, 0), other == lane ? 5 : -12);
                }
                x.lose(k);
                Checks.due("9: nothing on sheet " + k, x.path(1, 0, k, lane, 0, 2, 0), -11);
            }
        }
    }

    private static void ripeThenIsWhatCounts() {
        ShornHill x = Checks.told("h1414;gsog");
        Checks.due("9: none behind 0", asked(x, 0, 2, "", 1), -3);
        Checks.due("9: a hollow behind 1", asked(x, 1, 2, "", 2), 4);
        wrongAt(x, 1, 2, "3", 0);
        leadsTo(x, 2, 2, "3", 1);
        wrongAt(x, 3, 2, "33", 1);
        leadsTo(x, 4, 2, "33", 0);
        x.breadth(9);
        wrongAt(x, 8, 2, "33", 1);
        leadsTo(x, 9, 2, "33", 0);
        Checks.due("9: behind 10", asked(x, 10, 2, "33", 1), -2);
    }

    private static void nothingIsShornByAsking() {
        ShornHill x = Checks.told(FULL);
        for (int turn = 0; turn < 3; turn++) {
            Checks.due("9: again", asked(x, 1, 0, ALL, 2), 65535);
            Checks.due("8: still ripe", x.ripe(1), 65535);
        }
    }
}
