/** Part 3, fleeces; promises 10 to 13 at their edges. */
public final class FleeceEdgeTest {
    private static final String FULL = "h4411;gggg;gggg;gggg;gggg";

    public static void main(String[] args) {
        strokesUpToTheFifteenth();
        oneCellHasNoStroke();
        theFirstOfSeveralAsARow();
        theMostIsAheadOfTheFirst();
        everySizeAsTheModel();
        onlyRipeCells();
        fleecesOfOddAndEvenCells();
        startOfNone();
        startIsTheLeastOfSeveral();
        startHasTheMost();
        startAtTheLastCell();
        startByWeeks();
        wholeInTheNinthWeekAndNotLater();
        wholeIsNeverAtOnce();
        wholeIsTheFewestWeeks();
        wholeOfOneCell();
        wholeOfAll();
        wholeByNone();
        stopsAsItIs();
        stopsByNone();
        stopsIsTheLeast();
        stopsAtTheEndsOfTheHill();
        stopsAsGrassOnly();
        stopsOfThornsAlone();
        stopsNeedsAllOthersRipe();
        stopsShearsTheThornToo();
        Checks.end();
    }

    private static void fleeceIs(ShornHill x, int weeks, int c, String strokes) {
        String label = "10: from " + c + " behind " + weeks + ", ";
        Checks.due(label + "cells", x.fleece(weeks, c, -1), strokes.length() + 1);
        for (int k = 0; k <= 14; k++) {
            int due = k < strokes.length() ? strokes.charAt(k) - '0' : -9;
            Checks.due(label + "stroke " + k, x.fleece(weeks, c, k), due);
        }
    }

    private static void strokesUpToTheFifteenth() {
        ShornHill x = Checks.told(FULL);
        fleeceIs(x, 1, 0, "111222300322300");
        Checks.due("10: k 14", x.fleece(1, 0, 14), 0);
        Checks.due("10: k 15", x.fleece(1, 0, 15), -2);
        Checks.due("10: k -1", x.fleece(1, 0, -1), 16);
        Checks.due("10: k -2", x.fleece(1, 0, -2), -2);
    }

    private static void oneCellHasNoStroke() {
        fleeceIs(Checks.told("h1211;g#"), 1, 0, "");
        fleeceIs(Checks.told("h1211;#g"), 9, 1, "");
        fleeceIs(Checks.told("h3311;#g#;gog;#g#"), 9, 4, "0");
        ShornHill x = Checks.told("h3314;ggg;gog;ggg");
        fleeceIs(x, 1, 4, "");
        fleeceIs(Checks.told("h1211;gg"), 1, 0, "1");
    }

    private static void theFirstOfSeveralAsARow() {
        fleeceIs(Checks.told("h3311;#g#;ggg;#g#"), 1, 4, "0");
        fleeceIs(Checks.told("h3311;###;ggg;#g#"), 1, 4, "1");
        fleeceIs(Checks.told("h3311;###;gg#;#g#"), 1, 4, "2");
        fleeceIs(Checks.told("h3311;###;gg#;###"), 1, 4, "3");
        ShornHill square = Checks.told("h2211;gg;gg");
        fleeceIs(square, 1, 0, "123");
        fleeceIs(square, 1, 1, "230");
        fleeceIs(square, 1, 2, "012");
        fleeceIs(square, 1, 3, "032");
    }

    private static void theMostIsAheadOfTheFirst() {
        fleeceIs(Checks.told("h3311;#g#;#gg;###"), 1, 4, "0");
        fleeceIs(Checks.told("h2411;#g##;#ggg"), 1, 5, "11");
        fleeceIs(Checks.told("h4211;g#;g#;g#;gg"), 1, 2, "221");
        fleeceIs(Checks.told("h4211;g#;g#;g#;g#"), 1, 2, "22");
    }

    private static void everySizeAsTheModel() {
        for (int high = 1; high <= 4; high++) {
            for (int wide = 2; wide <= 4; wide++) {
                StringBuilder s = new StringBuilder("h").append(high).append(wide).append("11");
                for (int k = 0; k < high; k++) {
                    s.append(";gggg", 0, 1 + wide);
                }
                likeTheModel(s.toString(), high * wide);
            }
        }
        likeTheModel("h4411;gg#g;gggg;#ggg;gg#g", 16);
        likeTheModel("h4411;g#gg;ggg#;g#gg;gggg", 16);
    }

    private static void likeTheModel(String text, int cells) {
        ShornHill x = Checks.told(text);
        Model m = new Model();
        m.sheet(0, 0, text.length());
        for (int i = 0; i < text.length(); i++) {
            m.put(0, i, text.charAt(i));
        }
        m.hill(0, 0, 0, text.length());
        for (int c = 0; c < cells; c++) {
            for (int k = -1; k <= 14; k++) {
                Checks.due("10: " + text + " from " + c + " k " + k, x.fleece(1, c, k), m.fleece(1, c, k));
            }
            Checks.due("19: " + text + " upper from " + c, x.odds(1, c, 0), m.odds(1, c, 0));
            Checks.due("19: " + text + " lower from " + c, x.odds(1, c, 1), m.odds(1, c, 1));
            Checks.due("12: " + text + " from " + c, x.whole(c), m.whole(c));
        }
        Checks.due("11: " + text, x.start(1), m.start(1));
        Checks.due("13: " + text, x.stops(1), m.stops(1));
    }

    private static void onlyRipeCells() {
        ShornHill x = Checks.told("h1414;gsog");
        fleeceIs(x, 1, 2, "");
        fleeceIs(x, 2, 2, "3");
        fleeceIs(x, 3, 1, "1");
        fleeceIs(x, 4, 0, "111");
        fleeceIs(x, 9, 3, "333");
        Checks.due("10: not ripe behind 3", x.fleece(3, 0, -1), -3);
        x.goats(3, 9);
        fleeceIs(x, 9, 0, "11");
    }

    /** By turns of the two colours of a board: from an odd cell of 3 x 3 one is left. */
    private static void fleecesOfOddAndEvenCells() {
        ShornHill x = Checks.told("h3311;ggg;ggg;ggg");
        ShornHill y = Checks.told(FULL);
        for (int c = 0; c < 16; c++) {
            Checks.due("10: 3 x 3 from " + c, x.fleece(1, c, -1), c > 8 ? -1 : c % 2 == 0 ? 9 : 8);
            Checks.due("10: 4 x 4 from " + c, y.fleece(1, c, -1), 16);
        }
    }

    private static void startOfNone() {
        ShornHill x = Checks.told("h1219;gg");
        Checks.due("11: no weeks", x.start(0), -9);
        Checks.due("11: one too few", x.start(8), -9);
        Checks.due("11: just so many", x.start(9), 0);
        Checks.due("11: thorns alone", Checks.told("h2211;##;##").start(9), -9);
    }

    private static void startIsTheLeastOfSeveral() {
        Checks.due("11: all alike", Checks.told(FULL).start(1), 0);
        Checks.due("11: parts alike", Checks.told("h1411;#g#g").start(1), 1);
        Checks.due("11: both ends", Checks.told("h1411;#ggg").start(1), 1);
        Checks.due("11: 3 x 3 without two corners", Checks.told("h3311;#gg;ggg;gg#").start(1), 1);
    }

    private static void startHasTheMost() {
        Checks.due("11: a greater part", Checks.told("h1411;g#gg").start(1), 2);
        Checks.due("11: not from the middle", Checks.told("h2311;#g#;ggg").start(1), 1);
        Checks.due("11: from an end", Checks.told("h2311;g#g;ggg").start(1), 0);
        Checks.due("11: a far end", Checks.told("h3211;#g;g#;gg").start(1), 2);
    }

    private static void startAtTheLastCell() {
        ShornHill x = Checks.told("h4414;gggg;gggg;gggg;gggo");
        Checks.due("11: it alone", x.start(1), 15);
        Checks.due("11: all", x.start(4), 0);
        Checks.due("11: the last of two", Checks.told("h1211;#g").start(1), 1);
    }

    private static void startByWeeks() {
        ShornHill x = Checks.told("h1414;gsog");
        int[] due = {-9, 2, 1, 1, 0, 0, 0, 0, 0, 0};
        for (int weeks = 0; weeks <= 9; weeks++) {
            Checks.due("11: behind " + weeks, x.start(weeks), due[weeks]);
        }
        Checks.due("11: behind -1", x.start(-1), -2);
        Checks.due("11: behind 10", x.start(10), -2);
    }

    private static void wholeInTheNinthWeekAndNotLater() {
        ShornHill x = Checks.told("h1219;gg");
        Checks.due("12: nine weeks", x.whole(0), 9);
        x.goats(1, 1);
        Checks.due("12: ten would be", x.whole(0), -9);
        Checks.due("12: ten would be, from the other", x.whole(1), -9);
        x.breadth(8);
        Checks.due("12: nine again", x.whole(1), 9);
        x.goats(1, 0);
        Checks.due("12: eight", x.whole(0), 8);
    }

    private static void wholeIsNeverAtOnce() {
        ShornHill x = Checks.told("h1231;oo");
        Checks.due("12: one week at least", x.whole(0), 1);
        x.breadth(8);
        Checks.due("12: one week yet", x.whole(0), 1);
        x.breadth(9);
        Checks.due("12: two", x.whole(0), 2);
    }

    private static void wholeIsTheFewestWeeks() {
        ShornHill x = Checks.told("h1415;gsos");
        Checks.due("12: as the slowest", x.whole(0), 5);
        Checks.due("12: as the slowest, from the other end", x.whole(3), 5);
        x.goats(3, 9);
        Checks.due("12: now another is the slowest", x.whole(0), 7);
        x.pace(3);
        Checks.due("12: by a greater pace", x.whole(0), 4);
    }

    private static void wholeOfOneCell() {
        Checks.due("12: one and thorns", Checks.told("h2213;##;#s").whole(3), 2);
        Checks.due("12: a thorn", Checks.told("h2213;##;#s").whole(0), -1);
        Checks.due("12: behind the last", Checks.told("h2213;##;#s").whole(4), -1);
    }

    private static void wholeOfAll() {
        ShornHill x = Checks.told(FULL);
        ShornHill y = Checks.told("h3311;ggg;ggg;ggg");
        for (int c = 0; c < 16; c++) {
            Checks.due("12: 4 x 4 from " + c, x.whole(c), 1);
            Checks.due("12: 3 x 3 from " + c, y.whole(c), c > 8 ? -1 : c % 2 == 0 ? 1 : -9);
        }
    }

    private static void wholeByNone() {
        Checks.due("12: from the middle", Checks.told("h1311;ggg").whole(1), -9);
        Checks.due("12: in parts", Checks.told("h1311;g#g").whole(0), -9);
        Checks.due("12: corners do not touch", Checks.told("h2211;g#;#g").whole(0), -9);
        Checks.due("12: a star", Checks.told("h3311;#g#;ggg;#g#").whole(1), -9);
    }

    private static void stopsAsItIs() {
        Checks.due("13: a thorn at an end", Checks.told("h1411;#ggg").stops(1), -9);
        Checks.due("13: no thorn", Checks.told(FULL).stops(1), -9);
        Checks.due("13: one cell", Checks.told("h1411;##g#").stops(1), -9);
        Checks.due("13: from the ends only", Checks.told("h1311;ggg").stops(1), -9);
    }

    private static void stopsByNone() {
        Checks.due("13: two in a row", Checks.told("h1411;g##g").stops(9), -9);
        Checks.due("13: a star without thorns", Checks.told("h3211;g#;gg;g#").stops(0), -9);
        Checks.due("13: no thorn, no fleece", Checks.told("h1219;gg").stops(1), -9);
        Checks.due("13: three parts", Checks.told("h3311;g#g;###;g##").stops(9), -9);
    }

    private static void stopsIsTheLeast() {
        Checks.due("13: the first of two", Checks.told("h2311;g#g;g#g").stops(1), 1);
        Checks.due("13: the second only", Checks.told("h2411;#g#g;#g#g").stops(1), 2);
        Checks.due("13: the middle one", Checks.told("h3311;ggg;###;ggg").stops(1), 3);
    }

    private static void stopsAtTheEndsOfTheHill() {
        Checks.due("13: the first cell", Checks.told("h2211;#g;g#").stops(1), 0);
        Checks.due("13: the last but one of 16", Checks.told("h4411;####;####;####;#g#g").stops(1), 14);
        ShornHill x = Checks.told("h4411;####;####;###g;##g#");
        Checks.due("13: 11 and 14, by 10", x.stops(1), 10);
    }

    /** The thorn must be ripe itself, as grass, no spring, of which goats ate nothing. */
    private static void stopsAsGrassOnly() {
        ShornHill x = Checks.told("h1314;o#o");
        int[] due = {-9, -9, -9, -9, 1, 1, 1, 1, 1, 1};
        for (int weeks = 0; weeks <= 9; weeks++) {
            Checks.due("13: behind " + weeks, x.stops(weeks), due[weeks]);
        }
        x.goats(0, 9);
        x.goats(2, 9);
        Checks.due("13: goats of others", x.stops(4), 1);
        x.pace(3);
        Checks.due("13: pace 3, one week", x.stops(1), -9);
        Checks.due("13: pace 3, two weeks", x.stops(2), 1);
        x.breadth(9);
        Checks.due("13: breadth 9", x.stops(2), -9);
        Checks.due("13: breadth 9, three weeks", x.stops(3), 1);
    }

    private static void stopsOfThornsAlone() {
        ShornHill x = Checks.told("h2219;##;##");
        Checks.due("13: not ripe", x.stops(8), -9);
        Checks.due("13: ripe", x.stops(9), 0);
    }

    private static void stopsNeedsAllOthersRipe() {
        ShornHill x = Checks.told("h1411;g#gg");
        Checks.due("13: all are", x.stops(1), 1);
        x.goats(3, 1);
        Checks.due("13: one is not", x.stops(1), -9);
        Checks.due("13: a week later", x.stops(2), 1);
        Checks.due("13: weeks 9", x.stops(9), 1);
        Checks.due("13: weeks 10", x.stops(10), -2);
        Checks.due("13: weeks 0", x.stops(0), -9);
        Checks.due("13: weeks -1", x.stops(-1), -2);
    }

    private static void stopsShearsTheThornToo() {
        Checks.due("13: it would be one more to shear", Checks.told("h3311;#g#;ggg;###").stops(1), 0);
        Checks.due("13: a star of four", Checks.told("h3311;#g#;ggg;#g#").stops(1), -9);
        ShornHill x = Checks.told("h1413;oo#o");
        Checks.due("13: it is not ripe behind one", x.stops(1), -9);
        Checks.due("13: it is ripe behind three", x.stops(3), 2);
    }
}
