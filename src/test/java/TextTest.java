/** Part 1, a hill by a text: what is taken, what is not, and the place of the first fault. */
public final class TextTest {
    private static final String LEAST = "h1211;gs", MOST = "h4439;gso#;sg#o;o#gs;#osg";

    public static void main(String[] args) {
        everySizeIsTaken();
        everyPaceAndBreadthIsTaken();
        digitsBesideTheirLimits();
        everyCodeAtEveryPlace();
        textsThatEndTooSoon();
        textsThatGoOnTooLong();
        theFirstFaultOfSeveral();
        aWrongCodeIsAheadOfTheEnd();
        noCodesAtAll();
        cellsAreNumberedByRows();
        kindsByTheirLetters();
        howManyAreNoThorns();
        aTextWithinARow();
        aTextInEachLane();
        codesAreCutToTheLaneOnly();
        theLongestRow();
        takenMakesAllAnew();
        takenLeavesSheetsAndTrace();
        aSmallerHillBehindALarger();
        notTakenLeavesTheHill();
        Checks.end();
    }

    /** A text of a size, all grass. */
    private static String sized(int high, int wide) {
        StringBuilder s = new StringBuilder("h").append(high).append(wide).append("11");
        for (int k = 0; k < high; k++) {
            s.append(";gggg", 0, 1 + wide);
        }
        return s.toString();
    }

    private static void everySizeIsTaken() {
        for (int high = 1; high <= 4; high++) {
            for (int wide = 2; wide <= 4; wide++) {
                ShornHill x = new ShornHill();
                String text = sized(high, wide);
                Checks.due("2: " + text, Checks.tellText(x, text), high * wide);
                Checks.due("2: fault of " + text, x.fault(), 0);
                Checks.due("30: cells of " + text, x.many(0), high * wide);
                Checks.due("30: wide of " + text, x.many(1), wide);
                Checks.due("30: thorns of " + text, x.many(4), 0);
                Checks.due("3: the last cell of " + text, x.ofCell(high * wide - 1, 0), 0);
                Checks.due("3: behind the last of " + text, x.ofCell(high * wide, 0), -1);
            }
        }
    }

    private static void everyPaceAndBreadthIsTaken() {
        for (int pace = 1; pace <= 3; pace++) {
            for (int breadth = 1; breadth <= 9; breadth++) {
                ShornHill x = Checks.told("h12" + pace + breadth + ";g#");
                Checks.due("2: pace", x.many(2), pace);
                Checks.due("2: breadth", x.many(3), breadth);
            }
        }
    }

    private static void digitsBesideTheirLimits() {
        failsAt("h0211;gg", 1);
        failsAt("h5211;gg;gg;gg;gg;gg", 1);
        failsAt("h1111;g", 2);
        failsAt("h1011;", 2);
        failsAt("h1511;ggggg", 2);
        failsAt("h1201;gg", 3);
        failsAt("h1241;gg", 3);
        failsAt("h1210;gg", 4);
        failsAt("h121:;gg", 4);
        failsAt("h121/;gg", 4);
    }

    private static void failsAt(String text, int place) {
        Checks.due("2: " + text, Checks.tellText(new ShornHill(), text), -100 - place);
    }

    /** A code that fits at no text's place is its first fault; any other is not. */
    private static void everyCodeAtEveryPlace() {
        for (String text : new String[] {LEAST, "h2312;gso;#gg", "h4211;gg;s#;oo;##", MOST}) {
            for (int place = 0; place < text.length(); place++) {
                ShornHill x = new ShornHill();
                Checks.write(x, 0, 2, text);
                for (int code = -2; code <= 130; code++) {
                    codeAt(x, text, place, code);
                }
                for (int far : new int[] {text.charAt(place) + 256, text.charAt(place) - 65536, 1 << 31}) {
                    codeAt(x, text, place, far);
                }
            }
        }
    }

    private static void codeAt(ShornHill x, String text, int place, int code) {
        x.put(0, place, code);
        int got = x.hill(0, 2, 0, text.length());
        boolean fits = code >= 0 && code < 128 && fitting(text, place).indexOf(code) >= 0;
        String label = "2: code " + code + " at " + place + " of " + text;
        if (!fits) {
            Checks.due(label, got, -100 - place);
        } else if (place == 1 || place == 2) {
            Checks.due(label + " isn't the fault", got > -100 || got < -100 - place ? 1 : 0, 1);
        } else {
            Checks.due(label + " is taken", got >= 0 ? 1 : 0, 1);
        }
    }

    /** The codes that fit at a place of a text that is whole. */
    private static String fitting(String text, int place) {
        String[] head = {"h", "1234", "234", "123", "123456789"};
        if (place < head.length) {
            return head[place];
        }
        return text.charAt(place) == ';' ? ";" : "gso#";
    }

    private static void textsThatEndTooSoon() {
        for (int high = 1; high <= 4; high++) {
            for (int wide = 2; wide <= 4; wide++) {
                String text = sized(high, wide);
                for (int n = 0; n < text.length(); n++) {
                    failsAt(text.substring(0, n), n);
                }
            }
        }
    }

    private static void textsThatGoOnTooLong() {
        for (int high = 1; high <= 4; high++) {
            for (int wide = 2; wide <= 4; wide++) {
                String text = sized(high, wide);
                for (String more : new String[] {";", "g", "#", "h", "1", "\0", " ", ";" + "gggg".substring(0, wide)}) {
                    failsAt(text + more, text.length());
                }
            }
        }
    }

    private static void theFirstFaultOfSeveral() {
        failsAt("x9999xxxx", 0);
        failsAt("h9999xxxx", 1);
        failsAt("h1999xxxx", 2);
        failsAt("h1299xxxx", 4 - 1);
        failsAt("h121xxxxx", 4);
        failsAt("h1211xxxx", 5);
        failsAt("h1211;xxx", 6);
        failsAt("h1211;gxx", 7);
        failsAt("h1211;ggx", 8);
        failsAt("h2211;gxg;gg", 7);
    }

    private static void aWrongCodeIsAheadOfTheEnd() {
        failsAt("hh", 1);
        failsAt("h4411;g;", 7);
        failsAt("h4411;gggg;gggg;gggg:", 20);
        failsAt("h2211;gggg", 8);
    }

    private static void noCodesAtAll() {
        ShornHill x = new ShornHill();
        Checks.write(x, 0, 0, LEAST);
        x.sheet(1, 2, 0);
        Checks.due("2: none of the first", x.hill(0, 0, 0, 0), -100);
        Checks.due("2: none from within", x.hill(0, 0, 3, 0), -100);
        Checks.due("2: none at the end", x.hill(0, 0, 8, 0), -100);
        Checks.due("2: none of an empty row", x.hill(1, 2, 0, 0), -100);
        Checks.due("2: none is no fault", x.fault(), 0);
        Checks.due("2: none behind the end is one", x.hill(0, 0, 9, 0), -13);
        Checks.due("2: none behind an empty row, too", x.hill(1, 2, 1, 0), -13);
    }

    private static void cellsAreNumberedByRows() {
        ShornHill x = Checks.told("h2311;gso;#sg");
        kindsAre(x, 0, 1, 2, 3, 1, 0);
        ShornHill y = Checks.told("h3211;gs;o#;sg");
        kindsAre(y, 0, 1, 2, 3, 1, 0);
        kindsAre(Checks.told(MOST), 0, 1, 2, 3, 1, 0, 3, 2, 2, 3, 0, 1, 3, 2, 1, 0);
    }

    private static void kindsAre(ShornHill x, int... kinds) {
        for (int c = 0; c < kinds.length; c++) {
            Checks.due("3: kind of " + c, x.ofCell(c, 0), kinds[c]);
        }
        Checks.due("3: behind the last", x.ofCell(kinds.length, 0), -1);
    }

    private static void kindsByTheirLetters() {
        kindsAre(Checks.told("h1411;gso#"), 0, 1, 2, 3);
        failsAt("h1411;Gso#", 6);
        failsAt("h1411;gSo#", 7);
        failsAt("h1411;gs0#", 8);
        failsAt("h1411;gso\"", 9);
        failsAt("h1411:gso#", 5);
    }

    private static void howManyAreNoThorns() {
        ShornHill x = new ShornHill();
        Checks.due("2: none", Checks.tellText(x, "h4411;####;####;####;####"), 0);
        Checks.due("30: all are thorns", x.many(4), 16);
        Checks.due("2: all", Checks.tellText(x, "h4411;gsos;gsos;gsos;gsos"), 16);
        Checks.due("30: no thorns", x.many(4), 0);
        Checks.due("2: all but the first", Checks.tellText(x, "h1211;#g"), 1);
        Checks.due("2: all but the last", Checks.tellText(x, "h1211;g#"), 1);
    }

    private static void aTextWithinARow() {
        ShornHill x = new ShornHill();
        Checks.write(x, 0, 0, "h" + MOST + ";gggg");
        Checks.due("2: from 1 on", x.hill(0, 0, 1, 25), 12);
        Checks.due("2: from 0 on", x.hill(0, 0, 0, 25), -101);
        Checks.due("2: from 2 on", x.hill(0, 0, 2, 25), -100);
        Checks.due("2: one less", x.hill(0, 0, 1, 24), -124);
        Checks.due("2: one more", x.hill(0, 0, 1, 26), -125);
        Checks.due("2: up to the end", x.hill(0, 0, 1, 30), -125);
        Checks.due("2: beyond the end", x.hill(0, 0, 1, 31), -13);
    }

    private static void aTextInEachLane() {
        for (int lane = 0; lane <= 2; lane++) {
            for (int k = 0; k < 4; k++) {
                ShornHill x = new ShornHill();
                Checks.write(x, k, lane, MOST);
                Checks.due("2: sheet " + k + ", lane " + lane, x.hill(k, lane, 0, 25), 12);
                for (int other = 0; other <= 2; other++) {
                    Checks.due("2: lane " + lane + " as " + other, x.hill(k, other, 0, 25), other == lane ? 12 : -12);
                }
            }
        }
    }

    /** A code that is too great for its lane is cut as it comes to the sheet, not as it is read. */
    private static void codesAreCutToTheLaneOnly() {
        int[] due = {2, -100, -100};
        for (int lane = 0; lane <= 2; lane++) {
            ShornHill x = new ShornHill();
            Checks.write(x, 0, lane, LEAST);
            x.put(0, 0, 'h' + 256);
            Checks.due("2: 256 more, lane " + lane, x.hill(0, lane, 0, 8), due[lane]);
            x.put(0, 0, 'h' + 65536);
            Checks.due("2: 65536 more, lane " + lane, x.hill(0, lane, 0, 8), lane == 2 ? -100 : 2);
            x.put(0, 0, 'h');
            x.put(0, 7, -'g');
            Checks.due("2: below 0, lane " + lane, x.hill(0, lane, 0, 8), -107);
        }
    }

    private static void theLongestRow() {
        ShornHill x = new ShornHill();
        Checks.write(x, 0, 1, MOST);
        x.sheet(1, 1, 60);
        x.copy(0, 0, 1, 35, 25);
        Checks.due("2: at the end of 60", x.hill(1, 1, 35, 25), 12);
        Checks.due("2: all 60", x.hill(1, 1, 0, 60), -100);
        Checks.due("2: none behind 60", x.hill(1, 1, 60, 0), -100);
        Checks.due("2: one behind 60", x.hill(1, 1, 60, 1), -13);
        Checks.due("2: 61", x.hill(1, 1, 0, 61), -13);
        x.copy(0, 0, 1, 0, 25);
        Checks.due("2: 60 with a text ahead", x.hill(1, 1, 0, 60), -125);
    }

    private static void takenMakesAllAnew() {
        ShornHill x = Checks.told(MOST);
        for (int c = 0; c < 16; c++) {
            x.goats(c, 9 - c % 3);
        }
        for (int k = 0; k < 8; k++) {
            x.reading(0, k, 0);
        }
        x.pace(1);
        x.breadth(2);
        Checks.due("2: the same text again", Checks.tellText(x, MOST), 12);
        for (int c = 0; c < 16; c++) {
            Checks.due("2: goats ate nothing of " + c, x.ofCell(c, 2), 0);
        }
        Checks.due("2: no readings", x.many(5), 0);
        Checks.due("2: none can be taken back", x.back(1), -2);
        Checks.due("2: no reading binds", x.kinds(0), 7);
        Checks.due("2: the text's pace", x.many(2), 3);
        Checks.due("2: the text's breadth", x.many(3), 9);
        Checks.due("2: numbers begin anew", x.reading(0, 0, 0), 0);
    }

    private static void takenLeavesSheetsAndTrace() {
        ShornHill x = Checks.told(LEAST);
        Checks.row(x, 0, 1, 5, -6, 300);
        x.tell(1);
        x.trod(0);
        int trace = (2 * 31 + 1) * 31 + 4;
        Checks.due("28: ahead", x.trace(), trace);
        Checks.due("2: another", Checks.tellText(x, "h1311;ooo"), 3);
        Checks.due("28: behind", x.trace(), trace);
        Checks.due("2: a sheet stays", x.cell(0, 2, 1), 300);
        Checks.due("2: its end stays", x.cell(0, 3, 1), ShornHill.LOST);
        Checks.due("2: the text stays", x.cell(3, 8, 0), 'o');
        Checks.due("2: nothing stays nothing", x.lose(1), 0);
    }

    private static void aSmallerHillBehindALarger() {
        ShornHill x = Checks.told("h4411;oooo;oooo;oooo;oooo");
        Checks.due("2: smaller", Checks.tellText(x, "h1221;#g"), 1);
        Checks.due("3: no third cell", x.ofCell(2, 0), -1);
        Checks.due("8: no third cell", x.ripe(9), 2);
        Checks.due("10: no third cell", x.fleece(9, 1, -1), 1);
        Checks.due("11: no third cell", x.start(9), 1);
        Checks.due("12: no third cell", x.whole(1), 1);
        Checks.due("30: no third cell", x.many(0), 2);
        Checks.due("2: larger", Checks.tellText(x, "h2221;gg;#s"), 3);
        Checks.due("8: larger", x.ripe(9), 11);
        Checks.due("10: larger", x.fleece(9, 3, -1), 3);
    }

    private static void notTakenLeavesTheHill() {
        String[] texts = {"", "h", "h1211;g", "h1211;gg;", "h1211;xg", "g1211;gg", "h4411;gggg;gggg;gggg;ggg"};
        long[] untouched = Sight.of(withText(texts[0]));
        for (String text : texts) {
            ShornHill x = withText(text);
            Checks.due("2: " + text, x.hill(0, 0, 0, text.length()) <= -100 ? 1 : 0, 1);
            Checks.due("2: no fault by " + text, x.fault(), 0);
            x.sheet(0, 0, 0);
            Sight.same("2: " + text, x, untouched);
        }
    }

    private static ShornHill withText(String text) {
        ShornHill x = Checks.told("h2323;gso;#gg");
        x.goats(0, 2);
        x.goats(5, 9);
        x.pace(1);
        x.breadth(4);
        x.reading(0, 5, 3);
        x.reading(1, 1, 2);
        x.tell(1);
        Checks.write(x, 0, 0, text);
        return x;
    }
}
