import java.util.Random;

/** Runs of calls by fixed seeds: the class answers each of them as the model does. */
public final class ModelTest {
    private static final int RUNS = 1500;
    private static final int CALLS = 200;
    private final Random random;
    private final ShornHill x = new ShornHill();
    private final Model m = new Model();
    private String call = "";

    private ModelTest(long seed) {
        random = new Random(seed);
    }

    public static void main(String[] args) {
        for (int run = 0; run < RUNS; run++) {
            new ModelTest(run).calls(run);
        }
        Checks.end();
    }

    private void calls(int run) {
        if (run % 8 != 0) {
            tellText(4);
        }
        for (int k = 0; k < CALLS; k++) {
            if (random.nextInt(40) == 0) {
                tellText(4);
            } else if (random.nextInt(40) == 0) {
                tellStrokes();
            } else {
                any();
            }
        }
    }

    /** A number from least to most; at times one beside these, or far off. */
    private int number(int least, int most) {
        int kind = random.nextInt(40);
        if (kind == 0) {
            return least - 1;
        }
        if (kind == 1) {
            return most + 1;
        }
        if (kind == 2) {
            int[] far = {Integer.MIN_VALUE, Integer.MAX_VALUE, -10, 100, 65536, -1};
            return far[random.nextInt(far.length)];
        }
        return least + random.nextInt(most - least + 1);
    }

    private int cell() {
        return number(0, Math.max(0, x.many(0) - 1));
    }

    private void same(String name, long got, long want, int... with) {
        StringBuilder s = new StringBuilder(name);
        for (int v : with) {
            s.append(' ').append(v);
        }
        call = s.toString();
        Checks.due(call, got, want);
    }

    private void tellText(int mostHigh) {
        int high = 1 + random.nextInt(mostHigh);
        int wide = 2 + random.nextInt(3);
        StringBuilder s = new StringBuilder("h").append(high).append(wide);
        s.append(1 + random.nextInt(3)).append(1 + random.nextInt(9));
        String letters = random.nextInt(3) == 0 ? "gso" : random.nextInt(3) == 0 ? "gso#####" : "gso#gso";
        for (int k = 0; k < high; k++) {
            s.append(';');
            for (int i = 0; i < wide; i++) {
                s.append(letters.charAt(random.nextInt(letters.length())));
            }
        }
        if (random.nextInt(4) == 0) {
            s.setCharAt(random.nextInt(s.length()), "h;gso#123456789 \u00ff".charAt(random.nextInt(17)));
        }
        if (random.nextInt(8) == 0) {
            s.setLength(random.nextInt(s.length() + 1));
        } else if (random.nextInt(8) == 0) {
            s.append(random.nextBoolean() ? ";ggg" : "g");
        }
        int sheet = random.nextInt(4);
        int lane = random.nextInt(3);
        int from = random.nextInt(5);
        same("sheet", x.sheet(sheet, lane, from + s.length()), m.sheet(sheet, lane, from + s.length()));
        for (int k = 0; k < s.length(); k++) {
            same("put", x.put(sheet, from + k, s.charAt(k)), m.put(sheet, from + k, s.charAt(k)));
        }
        int n = s.length();
        same("hill " + s, x.hill(sheet, lane, from, n), m.hill(sheet, lane, from, n));
    }

    private void tellStrokes() {
        int sheet = random.nextInt(4);
        int lane = random.nextInt(3);
        int n = random.nextInt(12);
        x.sheet(sheet, lane, n);
        m.sheet(sheet, lane, n);
        for (int k = 0; k < n; k++) {
            int v = random.nextInt(30) == 0 ? 4 : random.nextInt(4);
            same("put", x.put(sheet, k, v), m.put(sheet, k, v));
        }
        for (int weeks = 5; weeks < 10; weeks++) {
            int c = cell();
            int part = n > 0 ? random.nextInt(n) : 0;
            for (int what = 0; what < 4; what++) {
                same("path", x.path(weeks, c, sheet, lane, 0, part, what), m.path(weeks, c, sheet, lane, 0, part, what),
                    weeks, c, part, what);
            }
        }
    }

    private void any() {
        int c = cell();
        int k = number(0, 3);
        int weeks = number(0, 9);
        int lane = number(0, 2);
        switch (random.nextInt(29)) {
            case 0: hill(k, lane, number(0, 5), number(0, 30)); break;
            case 1: all(c); break;
            case 2: goats(c, random.nextBoolean() ? number(0, 9) : 0); break;
            case 3: pace(number(1, 3)); break;
            case 4: breadth(number(1, 9)); break;
            case 5: same("coat", x.coat(c, weeks), m.coat(c, weeks), c, weeks); break;
            case 6: same("ripe", x.ripe(weeks), m.ripe(weeks), weeks); break;
            case 7: path(weeks, c, k, lane, number(0, 4), number(0, 20), number(0, 3)); break;
            case 8: fleece(weeks, c, number(-1, 14)); break;
            case 9: seldom(weeks, c); break;
            case 10: seldom(9, c); break;
            case 11: reading(c, weeks, number(0, 9)); break;
            case 12: readTrue(c, weeks); break;
            case 13: int n = number(0, 3); same("back", x.back(n), m.back(n), n); break;
            case 14: same("kinds", x.kinds(c), m.kinds(c), c); break;
            case 15: same("paces", x.paces(), m.paces()); break;
            case 16: same("eatings", x.eatings(c), m.eatings(c), c); break;
            case 17: odds(weeks, c, number(0, 1)); break;
            case 18: sheet(k, lane, random.nextBoolean() ? number(0, 60) : number(0, 8)); break;
            case 19: lose(k); break;
            case 20: put(k, number(0, 8), random.nextBoolean() ? number(0, 3) : random.nextInt()); break;
            case 21: cell(k, number(0, 8), lane); break;
            case 22: copy(k, number(0, 5), number(0, 3), number(0, 5), number(0, 8)); break;
            case 23: same("tell", x.tell(c), m.tell(c), c); break;
            case 24: same("trod", x.trod(c), m.trod(c), c); break;
            case 25: int kind = number(0, 2); same("as", x.as(c, kind), m.as(c, kind), c, kind); break;
            case 26: same("trace", x.trace(), m.trace()); break;
            default: break;
        }
        same("fault behind " + call, x.fault(), m.fault());
        int what = number(0, 5);
        same("many", x.many(what), m.many(what), what);
    }

    private void all(int c) {
        int what = number(0, 2);
        same("ofCell", x.ofCell(c, what), m.ofCell(c, what), c, what);
    }

    /** What takes the model long. */
    private void seldom(int weeks, int c) {
        switch (random.nextInt(12)) {
            case 0: same("start", x.start(weeks), m.start(weeks), weeks); break;
            case 1: same("whole", x.whole(c), m.whole(c), c); break;
            case 2: same("stops", x.stops(weeks), m.stops(weeks), weeks); break;
            default: break;
        }
    }

    private void hill(int k, int lane, int i, int n) {
        same("hill", x.hill(k, lane, i, n), m.hill(k, lane, i, n), k, lane, i, n);
    }

    private void goats(int c, int v) {
        same("goats", x.goats(c, v), m.goats(c, v), c, v);
    }

    private void pace(int v) {
        same("pace", x.pace(v), m.pace(v), v);
    }

    private void breadth(int v) {
        same("breadth", x.breadth(v), m.breadth(v), v);
    }

    private void path(int weeks, int c, int k, int lane, int i, int n, int what) {
        same("path", x.path(weeks, c, k, lane, i, n, what), m.path(weeks, c, k, lane, i, n, what),
            weeks, c, k, lane, i, n, what);
    }

    private void fleece(int weeks, int c, int k) {
        same("fleece", x.fleece(weeks, c, k), m.fleece(weeks, c, k), weeks, c, k);
    }

    private void reading(int c, int weeks, int v) {
        same("reading", x.reading(c, weeks, v), m.reading(c, weeks, v), c, weeks, v);
    }

    private void readTrue(int c, int weeks) {
        int v = x.coat(c, weeks);
        reading(c, weeks, v);
    }

    private void odds(int weeks, int c, int which) {
        same("odds", x.odds(weeks, c, which), m.odds(weeks, c, which), weeks, c, which);
    }

    private void sheet(int k, int lane, int n) {
        same("sheet", x.sheet(k, lane, n), m.sheet(k, lane, n), k, lane, n);
    }

    private void lose(int k) {
        same("lose", x.lose(k), m.lose(k), k);
    }

    private void put(int k, int i, int v) {
        same("put", x.put(k, i, v), m.put(k, i, v), k, i, v);
    }

    private void cell(int k, int i, int lane) {
        same("cell", x.cell(k, i, lane), m.cell(k, i, lane), k, i, lane);
    }

    private void copy(int k, int i, int other, int j, int n) {
        same("copy", x.copy(k, i, other, j, n), m.copy(k, i, other, j, n), k, i, other, j, n);
    }
}
