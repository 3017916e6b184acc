/** Promises 1 to 8: new objects, texts, cells, goats, pace, breadth, coats. */
public final class HillTest {
    public static void main(String[] args) {
        newObject();
        texts();
        textsThatFail();
        cellsOfSheets();
        ofCells();
        goats();
        paceAndBreadth();
        coats();
        Checks.end();
    }

    private static void newObject() {
        ShornHill x = new ShornHill();
        for (int what = 0; what <= 5; what++) {
            Checks.due("1: many " + what, x.many(what), 0);
        }
        for (int k = 0; k < 4; k++) {
            Checks.due("1: lose " + k, x.lose(k), 0);
        }
        Checks.due("1: fault", x.fault(), 0);
        Checks.due("1: trace", x.trace(), 0);
        Checks.due("1: ofCell", x.ofCell(0, 0), -1);
        Checks.due("1: goats", x.goats(0, 0), -1);
        Checks.due("1: coat", x.coat(0, 0), -1);
        Checks.due("1: path", x.path(0, 0, 0, 0, 0, 0, 0), -1);
        Checks.due("1: fleece", x.fleece(0, 0, 0), -1);
        Checks.due("1: whole", x.whole(0), -1);
        Checks.due("1: reading", x.reading(0, 0, 0), -1);
        Checks.due("1: back", x.back(0), 0);
        Checks.due("1: kinds", x.kinds(0), -1);
        Checks.due("1: eatings", x.eatings(0), -1);
        Checks.due("1: odds", x.odds(0, 0, 0), ShornHill.LOST);
        Checks.due("1: tell", x.tell(0), -1);
        Checks.due("1: trod", x.trod(0), -1);
        Checks.due("1: as", x.as(0, 0), -1);
    }

    private static void texts() {
        ShornHill x = new ShornHill();
        Checks.due("2: least", Checks.tellText(x, "h1211;gs"), 2);
        Checks.due("2: most", Checks.tellText(x, "h4439;gso#;####;oooo;g##g"), 9);
        Checks.due("2: cells", x.many(0), 16);
        Checks.due("2: wide", x.many(1), 4);
        Checks.due("2: pace", x.many(2), 3);
        Checks.due("2: breadth", x.many(3), 9);
        Checks.due("2: thorns", x.many(4), 7);
        x.goats(0, 5);
        x.reading(0, 1, 1);
        x.tell(0);
        Checks.due("2: thorns only", Checks.tellText(x, "h1325;###"), 0);
        Checks.due("2: thorns", x.many(4), 3);
        Checks.due("2: readings are gone", x.many(5), 0);
        Checks.due("2: trace stays", x.trace(), 1);
        Checks.due("2: again", Checks.tellText(x, "h1325;g##"), 1);
        Checks.due("2: goats ate nothing", x.ofCell(0, 2), 0);
        Checks.due("2: sheet stays", x.cell(3, 0, 0), 'h');
    }

    private static void textsThatFail() {
        textFails("", 0);
        textFails("g", 0);
        textFails("h", 1);
        textFails("h0", 1);
        textFails("h5211;gg", 1);
        textFails("h1", 2);
        textFails("h11", 2);
        textFails("h1511;gggg", 2);
        textFails("h12", 3);
        textFails("h120", 3);
        textFails("h1241;gg", 3);
        textFails("h121", 4);
        textFails("h1210;gg", 4);
        textFails("h121:", 4);
        textFails("h1211", 5);
        textFails("h1211g", 5);
        textFails("h1211;", 6);
        textFails("h1211;;", 6);
        textFails("h1211;g", 7);
        textFails("h1211;g;", 7);
        textFails("h1211;gx", 7);
        textFails("h1211;gg;", 8);
        textFails("h1211;ggg", 8);
        textFails("h2311;ggg", 9);
        textFails("h2311;ggg;", 10);
        textFails("h2311;ggg;gg", 12);
        textFails("h2311;gggg", 9);
        textFails("h2311;ggg;ggg;ggg", 13);
        textFails("h4411;gggg;gggg;gggg;gggg\0", 25);
        textFails("H1211;gg", 0);
        textFails("h1211;gG", 7);
    }

    private static void textFails(String text, int place) {
        ShornHill x = Checks.told("h2213;gs;o#");
        x.goats(0, 4);
        x.reading(0, 1, 1);
        Checks.due("2: " + text, Checks.tellText(x, text), -100 - place);
        Checks.due("2: no fault by " + text, x.fault(), 0);
        Checks.due("2: cells stay", x.many(0), 4);
        Checks.due("2: breadth stays", x.many(3), 3);
        Checks.due("2: readings stay", x.many(5), 1);
        Checks.due("2: goats stay", x.ofCell(0, 2), 4);
    }

    private static void cellsOfSheets() {
        ShornHill x = new ShornHill();
        Checks.due("2: sheet below", x.hill(-1, 3, -1, -1), -1);
        Checks.due("2: sheet above", x.hill(4, 0, 0, 0), -1);
        Checks.due("2: lane below", x.hill(0, -1, 0, 0), -2);
        Checks.due("2: lane above", x.hill(0, 3, 0, 0), -2);
        Checks.due("2: refused is no fault", x.fault(), 0);
        Checks.due("2: nothing", x.hill(0, 0, -1, -1), -11);
        Checks.due("2: fault", x.fault(), 1);
        Checks.write(x, 0, 2, "xxh1211;gsyy");
        Checks.due("2: cast", x.hill(0, 1, -1, -1), -12);
        Checks.due("2: fault", x.fault(), 2);
        Checks.due("2: size", x.hill(0, 2, -1, -1), -14);
        Checks.due("2: fault", x.fault(), 4);
        Checks.due("2: index", x.hill(0, 2, -1, 0), -13);
        Checks.due("2: index", x.hill(0, 2, 13, 0), -13);
        Checks.due("2: index", x.hill(0, 2, 12, 1), -13);
        Checks.due("2: index", x.hill(0, 2, 5, Integer.MAX_VALUE), -13);
        Checks.due("2: index", x.hill(0, 2, Integer.MAX_VALUE, Integer.MAX_VALUE), -13);
        Checks.due("2: fault", x.fault(), 3);
        Checks.due("2: at the end", x.hill(0, 2, 12, 0), -100);
        Checks.due("2: no hill yet", x.many(0), 0);
        Checks.due("2: from within", x.hill(0, 2, 2, 8), 2);
        Checks.due("2: too long", x.hill(0, 2, 2, 9), -108);
        Checks.due("2: no fault", x.fault(), 0);
        x.put(0, 2, 'h' + 65536);
        Checks.due("2: an int that is like h only if cut", x.hill(0, 2, 2, 8), -100);
        Checks.write(x, 1, 1, "h1211;gs");
        Checks.due("2: shorts", x.hill(1, 1, 0, 8), 2);
        x.lose(1);
        Checks.due("2: lost", x.hill(1, 1, 0, 8), -11);
        Checks.due("2: the hill stays", x.many(0), 2);
    }

    private static void ofCells() {
        ShornHill x = Checks.told("h2221;gs;o#");
        int[][] due = {{0, 2, 0}, {1, 3, 0}, {2, 6, 0}, {3, 0, 0}};
        for (int c = 0; c < 4; c++) {
            for (int what = 0; what < 3; what++) {
                Checks.due("3: " + c + " " + what, x.ofCell(c, what), due[c][what]);
            }
        }
        Checks.due("3: cell below", x.ofCell(-1, 0), -1);
        Checks.due("3: cell above", x.ofCell(4, 9), -1);
        Checks.due("3: what below", x.ofCell(3, -1), -2);
        Checks.due("3: what above", x.ofCell(3, 3), -2);
    }

    private static void goats() {
        ShornHill x = Checks.told("h2221;gs;o#");
        Checks.due("4: first", x.goats(2, 9), 0);
        Checks.due("4: second", x.goats(2, 0), 9);
        Checks.due("4: third", x.goats(2, 3), 0);
        Checks.due("4: below", x.goats(2, -1), -2);
        Checks.due("4: above", x.goats(2, 10), -2);
        Checks.due("4: thorn", x.goats(3, 10), -1);
        Checks.due("4: cell below", x.goats(-1, 1), -1);
        Checks.due("4: cell above", x.goats(4, 1), -1);
        Checks.due("4: ate", x.ofCell(2, 2), 3);
        Checks.due("4: of others", x.ofCell(1, 2), 0);
    }

    private static void paceAndBreadth() {
        ShornHill x = new ShornHill();
        Checks.due("5: no hill, outside", x.pace(0), -2);
        Checks.due("5: no hill", x.pace(3), -3);
        Checks.due("6: no hill, outside", x.breadth(10), -2);
        Checks.due("6: no hill", x.breadth(9), -3);
        Checks.tellText(x, "h2221;gs;o#");
        Checks.due("5: was", x.pace(3), 2);
        Checks.due("5: was", x.pace(1), 3);
        Checks.due("5: below", x.pace(0), -2);
        Checks.due("5: above", x.pace(4), -2);
        Checks.due("5: is", x.many(2), 1);
        Checks.due("5: hollow", x.ofCell(2, 1), 4);
        Checks.due("6: was", x.breadth(9), 1);
        Checks.due("6: was", x.breadth(4), 9);
        Checks.due("6: below", x.breadth(0), -2);
        Checks.due("6: above", x.breadth(10), -2);
        Checks.due("6: is", x.many(3), 4);
    }

    private static void coats() {
        ShornHill x = Checks.told("h2214;gs;o#");
        int[][] due = {{0, 1, 2, 3, 4, 5, 6, 7, 8, 9}, {0, 2, 4, 6, 8, 9, 9, 9, 9, 9},
            {0, 4, 8, 9, 9, 9, 9, 9, 9, 9}, {0, 0, 0, 0, 0, 0, 0, 0, 0, 0}};
        int[] sets = {0, 4, 6, 6, 7, 7, 7, 7, 7, 7};
        for (int weeks = 0; weeks < 10; weeks++) {
            for (int c = 0; c < 4; c++) {
                Checks.due("7: " + c + " " + weeks, x.coat(c, weeks), due[c][weeks]);
            }
            Checks.due("8: " + weeks, x.ripe(weeks), sets[weeks]);
        }
        x.goats(1, 9);
        x.goats(2, 9);
        Checks.due("7: less than nothing", x.coat(1, 4), 0);
        Checks.due("7: a little", x.coat(1, 5), 1);
        Checks.due("7: taken off ahead of the most", x.coat(2, 4), 7);
        Checks.due("7: most", x.coat(2, 5), 9);
        Checks.due("8: with goats", x.ripe(6), 5);
        Checks.due("8: with goats", x.ripe(7), 7);
        Checks.due("7: weeks below", x.coat(3, -1), -2);
        Checks.due("7: weeks above", x.coat(3, 10), -2);
        Checks.due("7: cell below", x.coat(-1, 10), -1);
        Checks.due("7: cell above", x.coat(4, 0), -1);
        Checks.due("8: weeks below", x.ripe(-1), -2);
        Checks.due("8: weeks above", x.ripe(10), -2);
        Checks.due("8: no hill", new ShornHill().ripe(10), -3);
    }
}
