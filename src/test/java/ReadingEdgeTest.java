/** Part 4, readings, what follows from them, odds; promises 14 to 19 at their edges. */
public final class ReadingEdgeTest {
    private static final long LOST = ShornHill.LOST;
    private static final int ALL_KINDS = 7, ALL_PACES = 14, ALL_EATINGS = 1023;

    public static void main(String[] args) {
        eightAndNoMore();
        numbersGoOnBehindWhatIsTakenBack();
        noneAllAndTooManyTakenBack();
        onlyTheLastAreTakenBack();
        theEighthBindsToo();
        weeksAndInchesToTheirLimits();
        aReadingNeedNotBeSo();
        allFollowsFromNoReading();
        noneFollowsFromWhatCanNotBe();
        kindsAtTheEdgesOfACoat();
        pacesAtTheEdgesOfACoat();
        eatingsAtTheEdgesOfACoat();
        inPlaceOfOneAlone();
        byWhatIsNow();
        readingsOfOtherCells();
        whatIsSupposedIsNotKept();
        pacesOfThornsAlone();
        certainAndNever();
        leastTerms();
        strokesThatCanBeAreAlike();
        oddsOfRipeCellsOnly();
        upperAndLower();
        oddsOfAHillOfSixteen();
        Checks.end();
    }

    private static void eightAndNoMore() {
        ShornHill x = Checks.told("h1211;gg");
        for (int k = 0; k < 8; k++) {
            Checks.due("30: how many ahead", x.many(5), k);
            Checks.due("14: number", x.reading(k % 2, k, k), k);
        }
        Checks.due("14: the ninth", x.reading(0, 8, 8), -4);
        Checks.due("30: eight", x.many(5), 8);
        Checks.due("17: the ninth is none", x.paces(), 2);
        x.back(1);
        Checks.due("14: the eighth again", x.reading(0, 8, 8), 7);
        Checks.due("14: full again", x.reading(0, 8, 8), -4);
    }

    private static void numbersGoOnBehindWhatIsTakenBack() {
        ShornHill x = Checks.told("h1211;gg");
        Checks.due("14: first", x.reading(0, 0, 0), 0);
        Checks.due("14: second", x.reading(0, 0, 0), 1);
        Checks.due("14: third", x.reading(0, 0, 0), 2);
        Checks.due("15: two", x.back(2), 1);
        Checks.due("14: second anew", x.reading(0, 0, 0), 1);
        Checks.due("15: all", x.back(2), 0);
        Checks.due("14: first anew", x.reading(0, 0, 0), 0);
        Checks.due("14: a refused one has none", x.reading(0, 0, 10), -2);
        Checks.due("14: second again", x.reading(0, 0, 0), 1);
    }

    private static void noneAllAndTooManyTakenBack() {
        ShornHill x = Checks.told("h1211;gg");
        Checks.due("15: none of none", x.back(0), 0);
        Checks.due("15: one of none", x.back(1), -2);
        for (int k = 0; k < 8; k++) {
            x.reading(0, k, k);
        }
        Checks.due("15: -1", x.back(-1), -2);
        Checks.due("15: nine of eight", x.back(9), -2);
        Checks.due("30: none are taken", x.many(5), 8);
        Checks.due("15: none of eight", x.back(0), 8);
        Checks.due("15: one of eight", x.back(1), 7);
        Checks.due("15: eight of seven", x.back(8), -2);
        Checks.due("15: seven of seven", x.back(7), 0);
        Checks.due("30: none are left", x.many(5), 0);
        Checks.due("15: one of none", x.back(1), -2);
    }

    private static void onlyTheLastAreTakenBack() {
        ShornHill x = Checks.told("h1411;gggg");
        x.reading(0, 4, 4);
        x.reading(1, 4, 8);
        x.reading(2, 4, 9);
        Checks.due("17: unlike ones", x.paces(), 0);
        x.back(1);
        Checks.due("17: unlike ones yet", x.paces(), 0);
        x.back(1);
        Checks.due("17: the first is left", x.paces(), 2);
        x.reading(1, 0, 0);
        Checks.due("17: what was taken back is forgotten", x.paces(), 2);
    }

    private static void theEighthBindsToo() {
        for (int at = 0; at < 8; at++) {
            ShornHill x = Checks.told("h1211;gs");
            for (int k = 0; k < 8; k++) {
                x.reading(0, 5, k == at ? 4 : 5);
            }
            Checks.due("16: number " + at + " is not so", x.kinds(1), 0);
            Checks.due("17: number " + at + " is not so", x.paces(), 0);
            Checks.due("18: number " + at + " is not so", x.eatings(1), 0);
        }
        ShornHill y = Checks.told("h1211;gs");
        for (int at = 0; at < 8; at++) {
            y.reading(0, 0, 0);
        }
        y.back(1);
        y.reading(1, 4, 8);
        Checks.due("16: by the eighth", y.kinds(1), 2);
        Checks.due("18: by the eighth", y.eatings(1), 1);
    }

    private static void weeksAndInchesToTheirLimits() {
        ShornHill x = Checks.told("h2211;gs;o#");
        Checks.due("14: weeks -1", x.reading(0, -1, 0), -2);
        Checks.due("14: weeks 10", x.reading(0, 10, 0), -2);
        Checks.due("14: v -1", x.reading(0, 0, -1), -2);
        Checks.due("14: v 10", x.reading(0, 0, 10), -2);
        Checks.due("14: none stands", x.many(5), 0);
        Checks.due("14: least", x.reading(0, 0, 0), 0);
        Checks.due("14: most", x.reading(2, 9, 9), 1);
        Checks.due("14: thorn", x.reading(3, 9, 0), -1);
        Checks.due("14: behind the last", x.reading(4, 9, 0), -1);
        Checks.due("14: ahead of the first", x.reading(-1, 9, 0), -1);
    }

    private static void aReadingNeedNotBeSo() {
        ShornHill x = Checks.told("h1211;gg");
        Checks.due("14: a coat behind no weeks", x.reading(0, 0, 9), 0);
        Checks.due("7: it is not so", x.coat(0, 0), 0);
        Checks.due("16: nothing follows", x.kinds(0), 0);
    }

    private static void allFollowsFromNoReading() {
        ShornHill x = Checks.told("h1411;gso#");
        for (int c = 0; c < 3; c++) {
            Checks.due("16: cell " + c, x.kinds(c), ALL_KINDS);
            Checks.due("18: cell " + c, x.eatings(c), ALL_EATINGS);
        }
        Checks.due("17: paces", x.paces(), ALL_PACES);
    }

    private static void noneFollowsFromWhatCanNotBe() {
        ShornHill x = Checks.told("h1411;gso#");
        x.reading(0, 0, 1);
        for (int c = 0; c < 3; c++) {
            Checks.due("16: cell " + c, x.kinds(c), 0);
            Checks.due("18: cell " + c, x.eatings(c), 0);
        }
        Checks.due("17: paces", x.paces(), 0);
        x.back(1);
        Checks.due("17: it is taken back", x.paces(), ALL_PACES);
    }

    private static void kindsAre(ShornHill x, int weeks, int v, int due) {
        x.reading(0, weeks, v);
        Checks.due("16: " + v + " behind " + weeks, x.kinds(0), due);
        x.back(1);
    }

    /** By pace 1: grass 1, a spring 2, a hollow 4 a week. */
    private static void kindsAtTheEdgesOfACoat() {
        ShornHill x = Checks.told("h1211;s#");
        kindsAre(x, 0, 0, 7);
        kindsAre(x, 1, 0, 0);
        kindsAre(x, 1, 1, 1);
        kindsAre(x, 1, 2, 2);
        kindsAre(x, 1, 4, 4);
        kindsAre(x, 4, 8, 2);
        kindsAre(x, 4, 9, 4);
        kindsAre(x, 5, 9, 6);
        kindsAre(x, 8, 8, 1);
        kindsAre(x, 8, 9, 6);
        kindsAre(x, 9, 9, 7);
        kindsAre(x, 9, 8, 0);
        x.goats(0, 9);
        kindsAre(x, 4, 0, 3);
        kindsAre(x, 4, 7, 4);
        kindsAre(x, 5, 1, 2);
        kindsAre(x, 9, 0, 1);
        kindsAre(x, 9, 9, 6);
        kindsAre(x, 2, 0, 7);
    }

    private static void pacesAre(ShornHill x, int c, int weeks, int v, int due) {
        x.reading(c, weeks, v);
        Checks.due("17: " + c + " " + v + " behind " + weeks, x.paces(), due);
        x.back(1);
    }

    private static void pacesAtTheEdgesOfACoat() {
        ShornHill x = Checks.told("h1321;gso");
        pacesAre(x, 0, 0, 0, 14);
        pacesAre(x, 0, 1, 0, 0);
        pacesAre(x, 0, 1, 1, 2);
        pacesAre(x, 0, 1, 2, 4);
        pacesAre(x, 0, 1, 3, 8);
        pacesAre(x, 0, 1, 4, 0);
        pacesAre(x, 0, 3, 9, 8);
        pacesAre(x, 0, 5, 9, 12);
        pacesAre(x, 0, 9, 9, 14);
        pacesAre(x, 1, 1, 1, 0);
        pacesAre(x, 1, 1, 4, 8);
        pacesAre(x, 1, 3, 9, 12);
        pacesAre(x, 2, 1, 4, 2);
        pacesAre(x, 2, 1, 8, 8);
        pacesAre(x, 2, 1, 2, 0);
        x.goats(0, 9);
        pacesAre(x, 0, 3, 0, 14);
        pacesAre(x, 0, 9, 9, 12);
        pacesAre(x, 0, 9, 0, 2);
    }

    private static void eatingsAre(ShornHill x, int weeks, int v, int due) {
        x.reading(0, weeks, v);
        Checks.due("18: " + v + " behind " + weeks, x.eatings(0), due);
        x.back(1);
    }

    private static void eatingsAtTheEdgesOfACoat() {
        ShornHill x = Checks.told("h1231;g#");
        eatingsAre(x, 0, 0, 1023);
        eatingsAre(x, 0, 1, 0);
        eatingsAre(x, 1, 0, 1023 - 7);
        eatingsAre(x, 1, 3, 1);
        eatingsAre(x, 1, 4, 0);
        eatingsAre(x, 3, 0, 512);
        eatingsAre(x, 3, 1, 256);
        eatingsAre(x, 3, 9, 1);
        eatingsAre(x, 4, 9, 1 + 2 + 4 + 8);
        eatingsAre(x, 4, 2, 0);
        eatingsAre(x, 4, 3, 512);
        eatingsAre(x, 6, 9, 1023);
        eatingsAre(x, 6, 8, 0);
        eatingsAre(x, 9, 9, 1023);
    }

    private static void inPlaceOfOneAlone() {
        ShornHill x = Checks.told("h1211;gg");
        x.reading(0, 4, 8);
        Checks.due("16: as a spring", x.kinds(0), 2);
        Checks.due("17: by pace 2", x.paces(), 4);
        Checks.due("18: by no eating", x.eatings(0), 0);
        Checks.due("16: the other's kind does not help", x.kinds(1), 0);
        x.reading(1, 4, 8);
        Checks.due("16: one kind is not enough", x.kinds(0), 0);
        Checks.due("17: one pace is", x.paces(), 4);
        x.back(1);
        x.reading(0, 3, 5);
        Checks.due("16: 8 less 6", x.kinds(0), 0);
        x.goats(0, 1);
        Checks.due("17: 9 less 1 of 3 weeks", x.paces(), 0);
    }

    private static void byWhatIsNow() {
        ShornHill x = Checks.told("h1211;gs");
        x.reading(0, 2, 3);
        Checks.due("16: by pace 1, nothing", x.kinds(0), 0);
        x.goats(0, 1);
        Checks.due("16: by goats, a spring", x.kinds(0), 2);
        x.pace(2);
        Checks.due("16: by pace 2, grass", x.kinds(0), 1);
        Checks.due("18: by pace 2", x.eatings(0), 2);
        x.pace(3);
        Checks.due("16: by pace 3, nothing", x.kinds(0), 0);
        Checks.due("18: by pace 3", x.eatings(0), 8);
        Checks.due("17: whatever the pace is", x.paces(), 4);
        x.breadth(9);
        Checks.due("17: whatever the breadth is", x.paces(), 4);
    }

    private static void readingsOfOtherCells() {
        ShornHill x = Checks.told("h4411;gggg;gggg;gggg;gggs");
        x.reading(15, 3, 6);
        Checks.due("16: of the last", x.kinds(15), 2);
        Checks.due("16: of the first", x.kinds(0), 7);
        x.reading(0, 3, 4);
        Checks.due("16: the first binds the last", x.kinds(15), 0);
        Checks.due("18: the first binds the last", x.eatings(15), 0);
        Checks.due("16: the first can't be mended", x.kinds(0), 0);
        x.back(1);
        x.reading(0, 3, 2);
        Checks.due("18: the first can be mended", x.eatings(0), 2);
        Checks.due("18: the last can't mend it", x.eatings(15), 0);
    }

    private static void whatIsSupposedIsNotKept() {
        ShornHill x = Checks.told("h1321;gso");
        x.goats(1, 7);
        x.reading(1, 5, 8);
        for (int c = 0; c < 3; c++) {
            x.kinds(c);
            x.eatings(c);
            x.paces();
            Checks.due("3: kind of " + c, x.ofCell(c, 0), c);
            Checks.due("3: eaten of " + c, x.ofCell(c, 2), c == 1 ? 7 : 0);
            Checks.due("30: pace", x.many(2), 2);
        }
        Checks.due("7: coat", x.coat(1, 5), 8);
        Checks.due("16: a spring", x.kinds(1), 2);
        Checks.due("17: pace 2", x.paces(), 4);
        Checks.due("18: 7", x.eatings(1), 128);
    }

    private static void pacesOfThornsAlone() {
        ShornHill x = Checks.told("h1211;##");
        Checks.due("17: thorns alone", x.paces(), 14);
        Checks.due("14: no reading of them", x.reading(0, 0, 0), -1);
        Checks.due("16: of the first", x.kinds(0), -1);
        Checks.due("18: of the last", x.eatings(1), -1);
        Checks.due("17: no hill", new ShornHill().paces(), -3);
    }

    private static void oddsAre(ShornHill x, int weeks, int c, long upper, long lower) {
        Checks.due("19: upper, from " + c + " behind " + weeks, x.odds(weeks, c, 0), upper);
        Checks.due("19: lower, from " + c + " behind " + weeks, x.odds(weeks, c, 1), lower);
    }

    private static void certainAndNever() {
        oddsAre(Checks.told("h1211;g#"), 1, 0, 1, 1);
        oddsAre(Checks.told("h1411;gggg"), 1, 0, 1, 1);
        oddsAre(Checks.told("h1411;gggg"), 1, 3, 1, 1);
        oddsAre(Checks.told("h1411;gggg"), 1, 1, 0, 1);
        oddsAre(Checks.told("h1411;gg#g"), 1, 0, 0, 1);
        oddsAre(Checks.told("h1211;g#"), 9, 0, 1, 1);
        oddsAre(Checks.told("h2211;g#;#g"), 1, 0, 0, 1);
        ShornHill square = Checks.told("h2211;gg;gg");
        for (int c = 0; c < 4; c++) {
            oddsAre(square, 1, c, 1, 1);
        }
    }

    /** Of 2 x 3 from a corner: all that begin along the short side shear all, half of the others. */
    private static void leastTerms() {
        ShornHill x = Checks.told("h2311;ggg;ggg");
        for (int c = 0; c < 6; c++) {
            oddsAre(x, 1, c, c % 3 == 1 ? 2 : 3, c % 3 == 1 ? 3 : 4);
        }
        oddsAre(Checks.told("h3211;gg;gg;gg"), 1, 2, 2, 3);
        oddsAre(Checks.told("h3211;gg;gg;gg"), 1, 0, 3, 4);
        oddsAre(Checks.told("h4211;gg;gg;gg;gg"), 1, 0, 1, 2);
    }

    private static void strokesThatCanBeAreAlike() {
        oddsAre(Checks.told("h2311;#g#;ggg"), 1, 1, 0, 1);
        oddsAre(Checks.told("h2311;gg#;ggg"), 1, 4, 0, 1);
        oddsAre(Checks.told("h2311;gg#;ggg"), 1, 5, 1, 1);
        oddsAre(Checks.told("h2311;gg#;ggg"), 1, 0, 0, 1);
        oddsAre(Checks.told("h2311;gg#;ggg"), 1, 1, 1, 2);
        oddsAre(Checks.told("h2311;gg#;ggg"), 1, 3, 1, 2);
        oddsAre(Checks.told("h2411;gggg;ggg#"), 1, 1, 1, 3);
    }

    private static void oddsOfRipeCellsOnly() {
        ShornHill x = Checks.told("h1414;gsog");
        Checks.due("19: none behind 0", x.odds(0, 2, 0), LOST);
        oddsAre(x, 1, 2, 1, 1);
        oddsAre(x, 2, 1, 1, 1);
        oddsAre(x, 3, 2, 1, 1);
        oddsAre(x, 4, 2, 0, 1);
        oddsAre(x, 4, 0, 1, 1);
        Checks.due("19: not ripe behind 3", x.odds(3, 0, 0), LOST);
        x.goats(2, 9);
        oddsAre(x, 3, 1, 1, 1);
        x.breadth(9);
        oddsAre(x, 9, 3, 1, 1);
        x.goats(3, 1);
        Checks.due("19: no longer ripe", x.odds(9, 3, 1), LOST);
        oddsAre(x, 9, 2, 1, 1);
    }

    private static void upperAndLower() {
        ShornHill x = Checks.told("h2311;ggg;ggg");
        Checks.due("19: which -1", x.odds(1, 0, -1), LOST);
        Checks.due("19: which 0", x.odds(1, 0, 0), 3);
        Checks.due("19: which 1", x.odds(1, 0, 1), 4);
        Checks.due("19: which 2", x.odds(1, 0, 2), LOST);
        Checks.due("29: odds name no fault", x.fault(), 0);
        x.put(0, 0, 0);
        Checks.due("19: lost", x.odds(1, 6, 0), LOST);
        Checks.due("29: the fault stays", x.fault(), 1);
    }

    private static void oddsOfAHillOfSixteen() {
        ShornHill x = Checks.told("h4411;gggg;gggg;gggg;gggg");
        for (int corner : new int[] {0, 3, 12, 15}) {
            oddsAre(x, 1, corner, 487, 3456);
        }
        for (int inner : new int[] {5, 6, 9, 10}) {
            oddsAre(x, 1, inner, 79, 384);
        }
        Checks.due("19: behind the last", x.odds(1, 16, 0), LOST);
    }
}
