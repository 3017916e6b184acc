/** Promises 10 to 13: the longest fleece, where to begin, when all is shorn, what stops it. */
public final class FleeceTest {
    public static void main(String[] args) {
        fleeces();
        fleeceRefusals();
        starts();
        wholes();
        stops();
        stopsAtEdges();
        Checks.end();
    }

    private static void asked(ShornHill x, int weeks, int c, String strokes) {
        Checks.due("10: from " + c, x.fleece(weeks, c, -1), strokes.length() + 1);
        for (int k = 0; k < 15; k++) {
            int due = k < strokes.length() ? strokes.charAt(k) - '0' : -9;
            Checks.due("10: from " + c + " stroke " + k, x.fleece(weeks, c, k), due);
        }
    }

    private static void fleeces() {
        ShornHill x = Checks.told("h2211;gg;gg");
        asked(x, 1, 0, "123");
        asked(x, 1, 1, "230");
        asked(x, 1, 2, "012");
        asked(x, 1, 3, "032");
        x.goats(1, 9);
        asked(x, 9, 0, "21");
        asked(x, 9, 3, "30");
        asked(x, 9, 2, "0");
        x.goats(0, 9);
        x.goats(3, 9);
        asked(x, 9, 2, "");
        asked(Checks.told("h4411;gggg;gggg;gggg;gggg"), 1, 0, "111222300322300");
        asked(Checks.told("h3311;ggg;ggg;ggg"), 1, 1, "1223030");
        asked(Checks.told("h1411;gg#g"), 9, 0, "1");
    }

    private static void fleeceRefusals() {
        ShornHill x = Checks.told("h1412;gs#g");
        Checks.due("10: cell below", x.fleece(10, -1, 15), -1);
        Checks.due("10: cell above", x.fleece(10, 4, 15), -1);
        Checks.due("10: weeks below", x.fleece(-1, 2, 0), -2);
        Checks.due("10: weeks above", x.fleece(10, 2, 0), -2);
        Checks.due("10: k below", x.fleece(9, 2, -2), -2);
        Checks.due("10: k above", x.fleece(9, 2, 15), -2);
        Checks.due("10: thorn", x.fleece(9, 2, 14), -3);
        Checks.due("10: not ripe", x.fleece(1, 0, -1), -3);
        Checks.due("10: ripe alone", x.fleece(1, 1, -1), 1);
    }

    private static void starts() {
        ShornHill x = new ShornHill();
        Checks.due("11: no hill", x.start(10), -3);
        Checks.tellText(x, "h3313;gso;g#g;ggg");
        Checks.due("11: none is ripe", x.start(0), -9);
        Checks.due("11: one", x.start(1), 2);
        Checks.due("11: two, the least", x.start(2), 1);
        Checks.due("11: all", x.start(3), 0);
        Checks.due("11: weeks below", x.start(-1), -2);
        Checks.due("11: weeks above", x.start(10), -2);
        Checks.due("11: thorns", Checks.told("h1211;##").start(9), -9);
        Checks.due("11: from an end", Checks.told("h2311;#g#;ggg").start(9), 1);
        Checks.due("11: a tree", Checks.told("h3311;#g#;ggg;#g#").start(9), 1);
        Checks.due("11: parts", Checks.told("h1411;g#gg").start(9), 2);
    }

    private static void wholes() {
        ShornHill x = Checks.told("h2213;gs;o#");
        Checks.due("12: from the middle", x.whole(0), -9);
        Checks.due("12: from an end", x.whole(1), 3);
        Checks.due("12: from the other end", x.whole(2), 3);
        Checks.due("12: thorn", x.whole(3), -1);
        Checks.due("12: below", x.whole(-1), -1);
        Checks.due("12: above", x.whole(4), -1);
        x.goats(0, 6);
        Checks.due("12: in the ninth week", x.whole(1), 9);
        x.goats(0, 7);
        Checks.due("12: later", x.whole(1), -9);
        x.pace(3);
        Checks.due("12: a greater pace", x.whole(1), 4);
        x.goats(0, 0);
        x.breadth(9);
        Checks.due("12: a greater breadth", x.whole(1), 3);
        Checks.due("12: alone", Checks.told("h1235;#s").whole(1), 2);
        Checks.due("12: parts", Checks.told("h1331;g#g").whole(0), -9);
    }

    private static void stops() {
        ShornHill x = new ShornHill();
        Checks.due("13: no hill", x.stops(10), -3);
        Checks.tellText(x, "h1413;g#gg");
        Checks.due("13: weeks below", x.stops(-1), -2);
        Checks.due("13: weeks above", x.stops(10), -2);
        Checks.due("13: not ripe", x.stops(2), -9);
        Checks.due("13: ripe", x.stops(3), 1);
        x.goats(0, 9);
        Checks.due("13: others are not ripe", x.stops(3), -9);
        Checks.due("13: as it is", Checks.told("h1411;#ggg").stops(9), -9);
        Checks.due("13: by none", Checks.told("h1411;g##g").stops(9), -9);
        Checks.due("13: the least", Checks.told("h3311;ggg;#g#;ggg").stops(9), -9);
        Checks.due("13: the least", Checks.told("h2311;g#g;g#g").stops(9), 1);
        Checks.due("13: not the first", Checks.told("h2411;#g#g;#g#g").stops(9), 2);
        Checks.due("13: it stays a thorn", x.ofCell(1, 0), 3);
        Checks.due("13: and has no coat", x.coat(1, 9), 0);
    }

    private static void stopsAtEdges() {
        ShornHill x = Checks.told("h1322;###");
        Checks.due("13: thorns, not ripe", x.stops(0), -9);
        Checks.due("13: thorns, one is ripe as grass", x.stops(1), 0);
        ShornHill y = Checks.told("h1314;o#o");
        Checks.due("13: hollows are ripe, grass is not", y.stops(3), -9);
        Checks.due("13: grass is ripe, too", y.stops(4), 1);
    }
}
