/** Part 1, what grows: weeks, coats from 0 to 9, ripe cells; promises 3 to 8 at their edges. */
public final class CoatTest {
    private static final String KINDS = "gso#";

    public static void main(String[] args) {
        whatGrowsByEachPace();
        everyCoat();
        noCoatAtFirst();
        noCoatBelowNothing();
        noCoatAboveNine();
        goatsEatAheadOfTheMost();
        thornsHaveNone();
        ripeByJustItsBreadth();
        ripeByEachBreadth();
        thornsAreNeverRipe();
        allSixteenAreRipe();
        weeksFromNoneToNine();
        goatsFromNoneToNine();
        goatsOfOneCell();
        paceToItsLimits();
        breadthToItsLimits();
        paceAndBreadthCountAtOnce();
        cellsTellThemselves();
        Checks.end();
    }

    private static void whatGrowsByEachPace() {
        ShornHill x = Checks.told("h1411;gso#");
        int[][] due = {{1, 2, 4, 0}, {2, 3, 6, 0}, {3, 4, 8, 0}};
        for (int pace = 1; pace <= 3; pace++) {
            x.pace(pace);
            for (int c = 0; c < 4; c++) {
                Checks.due("3: pace " + pace + " of " + c, x.ofCell(c, 1), due[pace - 1][c]);
                Checks.due("7: pace " + pace + ", one week of " + c, x.coat(c, 1), due[pace - 1][c]);
            }
        }
        Checks.due("3: goats do not slow it", x.goats(0, 9), 0);
        Checks.due("3: goats do not slow it", x.ofCell(0, 1), 3);
    }

    /** Week by week, 0 at least and 9 at most of all that grew less what goats ate. */
    private static void everyCoat() {
        int[][] grows = {{1, 2, 3}, {2, 3, 4}, {4, 6, 8}};
        for (int kind = 0; kind < 3; kind++) {
            for (int pace = 1; pace <= 3; pace++) {
                ShornHill x = Checks.told("h12" + pace + "5;" + KINDS.charAt(kind) + "#");
                for (int ate = 0; ate <= 9; ate++) {
                    x.goats(0, ate);
                    coatsOf(x, grows[kind][pace - 1], ate);
                }
            }
        }
    }

    private static void coatsOf(ShornHill x, int grows, int ate) {
        int grew = 0;
        for (int weeks = 0; weeks <= 9; weeks++) {
            int rest = grew < ate ? 0 : grew > ate + 9 ? 9 : grew - ate;
            String label = grows + " a week less " + ate + " behind " + weeks;
            Checks.due("7: " + label, x.coat(0, weeks), rest);
            Checks.due("8: " + label, x.ripe(weeks), rest >= 5 ? 1 : 0);
            grew += grows;
        }
    }

    private static void noCoatAtFirst() {
        ShornHill x = Checks.told("h1431;gso#");
        for (int c = 0; c < 4; c++) {
            Checks.due("7: no weeks, " + c, x.coat(c, 0), 0);
        }
        Checks.due("8: no weeks", x.ripe(0), 0);
    }

    private static void noCoatBelowNothing() {
        ShornHill x = Checks.told("h1211;gg");
        x.goats(0, 9);
        Checks.due("7: 0 less 9", x.coat(0, 0), 0);
        Checks.due("7: 8 less 9", x.coat(0, 8), 0);
        Checks.due("7: 9 less 9", x.coat(0, 9), 0);
        x.goats(0, 8);
        Checks.due("7: 9 less 8", x.coat(0, 9), 1);
        Checks.due("7: 7 less 8", x.coat(0, 7), 0);
    }

    private static void noCoatAboveNine() {
        ShornHill x = Checks.told("h1311;gso");
        Checks.due("7: 8", x.coat(0, 8), 8);
        Checks.due("7: 9", x.coat(0, 9), 9);
        Checks.due("7: 8 of 2 a week", x.coat(1, 4), 8);
        Checks.due("7: 10", x.coat(1, 5), 9);
        Checks.due("7: 12", x.coat(2, 3), 9);
        x.pace(3);
        Checks.due("7: 72", x.coat(2, 9), 9);
    }

    private static void goatsEatAheadOfTheMost() {
        ShornHill x = Checks.told("h1231;go");
        x.goats(0, 1);
        x.goats(1, 9);
        Checks.due("7: 9 less 1", x.coat(0, 3), 8);
        Checks.due("7: 12 less 1 is 9 at most", x.coat(0, 4), 9);
        Checks.due("7: 16 less 9", x.coat(1, 2), 7);
        Checks.due("7: 24 less 9 is 9 at most", x.coat(1, 3), 9);
        Checks.due("7: 72 less 9 is 9 at most", x.coat(1, 9), 9);
    }

    private static void thornsHaveNone() {
        ShornHill x = Checks.told("h2231;#g;g#");
        for (int weeks = 0; weeks <= 9; weeks++) {
            Checks.due("7: a thorn, " + weeks, x.coat(0, weeks), 0);
            Checks.due("7: the last thorn, " + weeks, x.coat(3, weeks), 0);
        }
        for (int what = 0; what <= 2; what++) {
            Checks.due("3: a thorn, what " + what, x.ofCell(0, what), what == 0 ? 3 : 0);
        }
    }

    private static void ripeByJustItsBreadth() {
        ShornHill x = Checks.told("h1215;g#");
        Checks.due("8: one less", x.ripe(4), 0);
        Checks.due("8: just so long", x.ripe(5), 1);
        Checks.due("8: one more", x.ripe(6), 1);
        x.goats(0, 4);
        Checks.due("8: one less for goats", x.ripe(8), 0);
        Checks.due("8: just so long in the ninth week", x.ripe(9), 1);
        x.goats(0, 5);
        Checks.due("8: goats ate too much", x.ripe(9), 0);
    }

    private static void ripeByEachBreadth() {
        ShornHill x = Checks.told("h1211;g#");
        for (int breadth = 1; breadth <= 9; breadth++) {
            x.breadth(breadth);
            for (int weeks = 0; weeks <= 9; weeks++) {
                String label = "8: breadth " + breadth + ", coat " + weeks;
                Checks.due(label, x.ripe(weeks), weeks >= breadth ? 1 : 0);
            }
        }
    }

    private static void thornsAreNeverRipe() {
        ShornHill x = Checks.told("h2231;##;##");
        for (int weeks = 0; weeks <= 9; weeks++) {
            Checks.due("8: thorns alone, " + weeks, x.ripe(weeks), 0);
        }
    }

    private static void allSixteenAreRipe() {
        ShornHill x = Checks.told("h4411;gggg;gggg;gggg;gggg");
        Checks.due("8: all of 16", x.ripe(1), 65535);
        x.goats(15, 1);
        Checks.due("8: but the last", x.ripe(1), 32767);
        x.goats(15, 0);
        x.goats(0, 1);
        Checks.due("8: but the first", x.ripe(1), 65534);
        Checks.due("7: the last cell", x.coat(15, 1), 1);
        Checks.due("7: behind the last cell", x.coat(16, 1), -1);
    }

    private static void weeksFromNoneToNine() {
        ShornHill x = Checks.told("h1211;gs");
        Checks.due("7: weeks -1", x.coat(0, -1), -2);
        Checks.due("7: weeks 0", x.coat(0, 0), 0);
        Checks.due("7: weeks 9", x.coat(0, 9), 9);
        Checks.due("7: weeks 10", x.coat(0, 10), -2);
        Checks.due("8: weeks -1", x.ripe(-1), -2);
        Checks.due("8: weeks 0", x.ripe(0), 0);
        Checks.due("8: weeks 9", x.ripe(9), 3);
        Checks.due("8: weeks 10", x.ripe(10), -2);
    }

    private static void goatsFromNoneToNine() {
        ShornHill x = Checks.told("h1331;gso");
        int was = 0;
        for (int v : new int[] {9, 0, 1, 8, 9, 9, 0, 0}) {
            Checks.due("4: becomes " + v, x.goats(1, v), was);
            Checks.due("3: ate " + v, x.ofCell(1, 2), v);
            was = v;
        }
        x.goats(1, 4);
        Checks.due("4: -1", x.goats(1, -1), -2);
        Checks.due("4: 10", x.goats(1, 10), -2);
        Checks.due("3: a refusal changes nothing", x.ofCell(1, 2), 4);
    }

    private static void goatsOfOneCell() {
        ShornHill x = Checks.told("h4431;gggg;gggg;gggg;ggg#");
        Checks.due("4: the first cell", x.goats(0, 5), 0);
        Checks.due("4: the last but the thorn", x.goats(14, 6), 0);
        Checks.due("4: a thorn at the end", x.goats(15, 6), -1);
        Checks.due("4: behind it", x.goats(16, 6), -1);
        for (int c = 0; c < 16; c++) {
            Checks.due("3: ate of " + c, x.ofCell(c, 2), c == 0 ? 5 : c == 14 ? 6 : 0);
        }
    }

    private static void paceToItsLimits() {
        ShornHill x = Checks.told("h1221;gs");
        Checks.due("5: least", x.pace(1), 2);
        Checks.due("5: below", x.pace(0), -2);
        Checks.due("5: it is the least", x.many(2), 1);
        Checks.due("5: most", x.pace(3), 1);
        Checks.due("5: above", x.pace(4), -2);
        Checks.due("5: it is the most", x.many(2), 3);
        Checks.due("5: the same again", x.pace(3), 3);
    }

    private static void breadthToItsLimits() {
        ShornHill x = Checks.told("h1225;gs");
        Checks.due("6: least", x.breadth(1), 5);
        Checks.due("6: below", x.breadth(0), -2);
        Checks.due("6: it is the least", x.many(3), 1);
        Checks.due("6: most", x.breadth(9), 1);
        Checks.due("6: above", x.breadth(10), -2);
        Checks.due("6: it is the most", x.many(3), 9);
        Checks.due("6: the same again", x.breadth(9), 9);
    }

    private static void paceAndBreadthCountAtOnce() {
        ShornHill x = Checks.told("h1239;gs");
        Checks.due("8: pace 3, breadth 9", x.ripe(3), 3);
        x.pace(1);
        Checks.due("8: pace 1, breadth 9", x.ripe(3), 0);
        Checks.due("8: pace 1, breadth 9, later", x.ripe(5), 2);
        Checks.due("8: pace 1, breadth 9, last", x.ripe(9), 3);
        x.breadth(4);
        Checks.due("8: pace 1, breadth 4", x.ripe(3), 2);
        Checks.due("30: goats and readings are left", x.many(5), 0);
    }

    private static void cellsTellThemselves() {
        ShornHill x = Checks.told("h4421;gggg;gggg;gggg;gso#");
        x.goats(13, 9);
        int[][] due = {{0, 2, 0}, {1, 3, 9}, {2, 6, 0}, {3, 0, 0}};
        for (int k = 0; k < 4; k++) {
            for (int what = 0; what <= 2; what++) {
                Checks.due("3: " + (12 + k) + " what " + what, x.ofCell(12 + k, what), due[k][what]);
            }
        }
        Checks.due("3: what -1", x.ofCell(15, -1), -2);
        Checks.due("3: what 3", x.ofCell(15, 3), -2);
        Checks.due("3: cell 16", x.ofCell(16, 3), -1);
        Checks.due("3: cell -1", x.ofCell(-1, 3), -1);
    }
}
