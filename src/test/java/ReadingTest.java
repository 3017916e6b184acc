/** Promises 14 to 19: readings, what follows from them, odds. */
public final class ReadingTest {
    public static void main(String[] args) {
        readings();
        takenBack();
        follows();
        followsOfAll();
        odds();
        oddsRefusals();
        Checks.end();
    }

    private static void readings() {
        ShornHill x = Checks.told("h2211;gs;o#");
        for (int k = 0; k < 8; k++) {
            Checks.due("14: number", x.reading(k % 3, k, 9 - k), k);
        }
        Checks.due("14: full", x.reading(0, 0, 0), -4);
        Checks.due("14: many", x.many(5), 8);
        Checks.due("14: outside ahead of full", x.reading(0, 0, 10), -2);
        Checks.due("14: v below", x.reading(0, 0, -1), -2);
        Checks.due("14: weeks below", x.reading(0, -1, 0), -2);
        Checks.due("14: weeks above", x.reading(0, 10, 0), -2);
        Checks.due("14: thorn", x.reading(3, 10, 0), -1);
        Checks.due("14: below", x.reading(-1, 0, 0), -1);
        Checks.due("14: above", x.reading(4, 0, 0), -1);
    }

    private static void takenBack() {
        ShornHill x = Checks.told("h2211;gs;o#");
        x.reading(0, 1, 1);
        x.reading(0, 1, 2);
        x.reading(0, 1, 3);
        Checks.due("15: below", x.back(-1), -2);
        Checks.due("15: above", x.back(4), -2);
        Checks.due("15: none", x.back(0), 3);
        Checks.due("15: that follows", x.paces(), 0);
        Checks.due("15: the last two", x.back(2), 1);
        Checks.due("15: the first stays", x.paces(), 2);
        Checks.due("15: the next number", x.reading(0, 2, 2), 1);
        Checks.due("15: all", x.back(2), 0);
        Checks.due("15: none is left", x.back(1), -2);
        Checks.due("15: all can be", x.paces(), 14);
    }

    private static void follows() {
        ShornHill x = Checks.told("h2213;gs;o#");
        Checks.due("17: no hill", new ShornHill().paces(), -3);
        Checks.due("16: no reading", x.kinds(0), 7);
        Checks.due("17: no reading", x.paces(), 14);
        Checks.due("18: no reading", x.eatings(0), 1023);
        x.goats(1, 2);
        x.reading(1, 3, 4);
        Checks.due("16: as a spring", x.kinds(1), 2);
        Checks.due("17: as it is", x.paces(), 2);
        Checks.due("18: as it is", x.eatings(1), 4);
        Checks.due("16: as it was", x.ofCell(1, 0), 1);
        Checks.due("17: as it was", x.many(2), 1);
        Checks.due("18: as it was", x.ofCell(1, 2), 2);
        x.back(1);
        x.reading(1, 9, 9);
        Checks.due("16: the most", x.kinds(1), 6);
        Checks.due("17: the most", x.paces(), 14);
        Checks.due("18: the most", x.eatings(1), 1023);
        x.pace(3);
        Checks.due("16: by another pace", x.kinds(1), 7);
        x.back(1);
        x.reading(1, 0, 0);
        Checks.due("16: no weeks", x.kinds(1), 7);
        x.reading(1, 0, 1);
        Checks.due("18: can't be", x.eatings(1), 0);
        Checks.due("16: below", x.kinds(-1), -1);
        Checks.due("16: thorn", x.kinds(3), -1);
        Checks.due("16: above", x.kinds(4), -1);
        Checks.due("18: below", x.eatings(-1), -1);
        Checks.due("18: thorn", x.eatings(3), -1);
        Checks.due("18: above", x.eatings(4), -1);
    }

    /** In place of what it is alone: all else stays, and readings of other cells must be so as well. */
    private static void followsOfAll() {
        ShornHill x = Checks.told("h2213;gs;o#");
        x.reading(0, 3, 3);
        x.reading(1, 3, 6);
        Checks.due("16: 0", x.kinds(0), 1);
        Checks.due("16: 1", x.kinds(1), 2);
        Checks.due("16: 2", x.kinds(2), 7);
        x.goats(0, 1);
        Checks.due("16: 0 is not so", x.kinds(1), 0);
        Checks.due("16: 0 is not so", x.kinds(2), 0);
        Checks.due("18: 0 is not so", x.eatings(2), 0);
        Checks.due("18: 0 can be", x.eatings(0), 1);
        Checks.due("16: 0 can't be", x.kinds(0), 0);
        Checks.due("17: 0 can't be", x.paces(), 0);
        x.goats(0, 0);
        x.back(2);
        x.reading(2, 2, 9);
        Checks.due("17: at least", x.paces(), 12);
        Checks.due("16: at most", x.kinds(2), 0);
        x.pace(2);
        Checks.due("16: with another pace", x.kinds(2), 4);
        Checks.due("18: with another pace", x.eatings(2), 15);
    }

    private static void asked(ShornHill x, int weeks, int c, long upper, long lower) {
        Checks.due("19: upper from " + c, x.odds(weeks, c, 0), upper);
        Checks.due("19: lower from " + c, x.odds(weeks, c, 1), lower);
    }

    private static void odds() {
        asked(Checks.told("h1211;g#"), 1, 0, 1, 1);
        asked(Checks.told("h1311;ggg"), 1, 0, 1, 1);
        asked(Checks.told("h1311;ggg"), 1, 1, 0, 1);
        asked(Checks.told("h1311;g#g"), 1, 0, 0, 1);
        asked(Checks.told("h2211;gg;gg"), 1, 3, 1, 1);
        asked(Checks.told("h2311;ggg;ggg"), 1, 0, 3, 4);
        asked(Checks.told("h2311;ggg;ggg"), 1, 1, 2, 3);
        asked(Checks.told("h4211;gg;gg;gg;gg"), 1, 0, 1, 2);
        ShornHill x = Checks.told("h2213;gs;o#");
        asked(x, 1, 2, 1, 1);
        asked(x, 2, 1, 0, 1);
        asked(x, 3, 0, 0, 1);
        asked(x, 3, 1, 1, 1);
        ShornHill full = Checks.told("h4411;gggg;gggg;gggg;gggg");
        asked(full, 1, 0, 487, 3456);
        asked(full, 1, 5, 79, 384);
    }

    private static void oddsRefusals() {
        ShornHill x = Checks.told("h2213;gs;o#");
        x.cell(0, 0, 0);
        Checks.due("19: below", x.odds(9, -1, 0), ShornHill.LOST);
        Checks.due("19: above", x.odds(9, 4, 0), ShornHill.LOST);
        Checks.due("19: thorn", x.odds(9, 3, 0), ShornHill.LOST);
        Checks.due("19: not ripe", x.odds(2, 0, 0), ShornHill.LOST);
        Checks.due("19: weeks below", x.odds(-1, 0, 0), ShornHill.LOST);
        Checks.due("19: weeks above", x.odds(10, 0, 0), ShornHill.LOST);
        Checks.due("19: which below", x.odds(9, 0, -1), ShornHill.LOST);
        Checks.due("19: which above", x.odds(9, 0, 2), ShornHill.LOST);
        Checks.due("19: it names no faults", x.fault(), 1);
    }
}
