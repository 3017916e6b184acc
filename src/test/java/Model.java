import java.math.BigInteger;
import java.util.ArrayList;
import java.util.Arrays;
import java.util.List;
import java.util.regex.Matcher;
import java.util.regex.Pattern;

/**
 * The document once more, by other means: the machine's own faults, patterns for texts, all paths
 * as lists, fractions. It shares nothing with the class, so that both are wrong alike by chance only.
 */
final class Model {
    private static final String LETTERS = "gso#";
    private final Object[] sheets = new Object[4];
    private char[][] rows = {};
    private int pace = 0;
    private int breadth = 0;
    private int[] ate = {};
    private List<int[]> readings = new ArrayList<>();
    private int trace = 0;
    private int fault = 0;

    private interface Work {
        long done();
    }

    /** Does what the machine may refuse; its fault is what fault() tells. */
    private long faulty(Work work, boolean isLong) {
        fault = 0;
        try {
            return work.done();
        } catch (NullPointerException e) {
            fault = 1;
        } catch (ClassCastException | ArrayStoreException e) {
            fault = 2;
        } catch (IndexOutOfBoundsException e) {
            fault = 3;
        } catch (NegativeArraySizeException e) {
            fault = 4;
        }
        return isLong ? Long.MIN_VALUE : -10 - fault;
    }

    private static boolean in(int v, int least, int most) {
        return least <= v && v <= most;
    }

    private int wide() {
        return rows.length == 0 ? 0 : rows[0].length;
    }

    private int cells() {
        return rows.length * wide();
    }

    private char letter(int c) {
        return rows[c / wide()][c % wide()];
    }

    private boolean isCell(int c) {
        return in(c, 0, cells() - 1);
    }

    private boolean isSoft(int c) {
        return isCell(c) && letter(c) != '#';
    }

    private static Object newRow(int lane, int n) {
        return lane == 0 ? new byte[n] : lane == 1 ? new short[n] : (Object) new int[n];
    }

    /** n cells of a sheet from i on, taken as a row of a lane. */
    private int[] taken(int sheet, int lane, int i, int n) {
        Object row = sheets[sheet];
        if (lane == 0) {
            row = (byte[]) row;
        } else if (lane == 1) {
            row = (short[]) row;
        } else {
            row = (int[]) row;
        }
        if (row == null) {
            throw new NullPointerException();
        }
        Object part = newRow(lane, Math.min(n, 61));
        System.arraycopy(row, i, part, 0, n);
        int[] all = new int[n];
        for (int k = 0; k < n; k++) {
            all[k] = java.lang.reflect.Array.getInt(part, k);
        }
        return all;
    }

    long hill(int sheet, int lane, int i, int n) {
        return faulty(() -> {
            if (!in(sheet, 0, 3)) {
                return -1;
            }
            if (!in(lane, 0, 2)) {
                return -2;
            }
            StringBuilder text = new StringBuilder();
            for (int code : taken(sheet, lane, i, n)) {
                text.append(in(code, 0, 127) ? (char) code : '?');
            }
            int wrong = 0;
            while (wrong <= n && isBegun(text.substring(0, wrong))) {
                wrong++;
            }
            if (wrong <= n) {
                return -100 - (wrong - 1);
            }
            if (!isText(text.toString())) {
                return -100 - n;
            }
            take(text.toString());
            int soft = 0;
            for (int c = 0; c < cells(); c++) {
                soft += isSoft(c) ? 1 : 0;
            }
            return soft;
        }, false);
    }

    private static Matcher matcher(int high, int wide, String text) {
        String shape = "h" + high + wide + "[1-3][1-9](;[gso#]{" + wide + "}){" + high + "}";
        return Pattern.compile(shape).matcher(text);
    }

    private static boolean isText(String text) {
        for (int k = 0; k < 12; k++) {
            if (matcher(1 + k / 3, 2 + k % 3, text).matches()) {
                return true;
            }
        }
        return false;
    }

    private static boolean isBegun(String text) {
        for (int k = 0; k < 12; k++) {
            Matcher m = matcher(1 + k / 3, 2 + k % 3, text);
            if (m.matches() || m.hitEnd() && text.length() < 26) {
                return true;
            }
        }
        return false;
    }

    private void take(String text) {
        String[] parts = text.split(";");
        pace = parts[0].charAt(3) - '0';
        breadth = parts[0].charAt(4) - '0';
        rows = new char[parts.length - 1][];
        for (int k = 1; k < parts.length; k++) {
            rows[k - 1] = parts[k].toCharArray();
        }
        ate = new int[cells()];
        readings = new ArrayList<>();
    }

    private static int growth(char letter, int pace) {
        return letter == 'g' ? pace : letter == 's' ? pace + 1 : letter == 'o' ? 2 * pace + 2 : 0;
    }

    private static int coat(char letter, int pace, int ate, int weeks) {
        int grew = 0;
        for (int k = 0; k < weeks; k++) {
            grew += growth(letter, pace);
        }
        int rest = grew - ate;
        return rest < 0 ? 0 : rest > 9 ? 9 : rest;
    }

    private int coatNow(int c, int weeks) {
        return coat(letter(c), pace, ate[c], weeks);
    }

    private boolean isRipe(int c, int weeks) {
        return isSoft(c) && coatNow(c, weeks) >= breadth;
    }

    long ofCell(int c, int what) {
        if (!isCell(c)) {
            return -1;
        }
        return what == 0 ? LETTERS.indexOf(letter(c)) : what == 1 ? growth(letter(c), pace)
            : what == 2 ? ate[c] : -2;
    }

    long goats(int c, int v) {
        if (!isSoft(c)) {
            return -1;
        }
        if (!in(v, 0, 9)) {
            return -2;
        }
        int was = ate[c];
        ate[c] = v;
        return was;
    }

    long pace(int v) {
        if (!in(v, 1, 3)) {
            return -2;
        }
        if (cells() == 0) {
            return -3;
        }
        int was = pace;
        pace = v;
        return was;
    }

    long breadth(int v) {
        if (!in(v, 1, 9)) {
            return -2;
        }
        if (cells() == 0) {
            return -3;
        }
        int was = breadth;
        breadth = v;
        return was;
    }

    long coat(int c, int weeks) {
        return !isCell(c) ? -1 : !in(weeks, 0, 9) ? -2 : coatNow(c, weeks);
    }

    private int ripeSet(int weeks) {
        int set = 0;
        for (int c = 0; c < cells(); c++) {
            set += isRipe(c, weeks) ? 1 << c : 0;
        }
        return set;
    }

    long ripe(int weeks) {
        return cells() == 0 ? -3 : !in(weeks, 0, 9) ? -2 : ripeSet(weeks);
    }

    /** The cell beside c, or -1. */
    private int step(int c, int stroke) {
        int down = c / wide() + (stroke == 0 ? -1 : stroke == 2 ? 1 : 0);
        int right = c % wide() + (stroke == 1 ? 1 : stroke == 3 ? -1 : 0);
        return in(down, 0, rows.length - 1) && in(right, 0, wide() - 1) ? down * wide() + right : -1;
    }

    long path(int weeks, int c, int sheet, int lane, int i, int n, int what) {
        return faulty(() -> {
            if (!isCell(c) || !in(sheet, 0, 3)) {
                return -1;
            }
            if (!in(weeks, 0, 9) || !in(lane, 0, 2) || !in(n, 0, 20) || !in(what, 0, 3)) {
                return -2;
            }
            if (!isRipe(c, weeks)) {
                return -3;
            }
            int[] strokes = taken(sheet, lane, i, n);
            for (int stroke : strokes) {
                if (!in(stroke, 0, 3)) {
                    return -2;
                }
            }
            return walked(weeks, c, strokes, what);
        }, false);
    }

    private long walked(int weeks, int c, int[] strokes, int what) {
        List<Integer> shorn = new ArrayList<>(List.of(c));
        int at = c;
        for (int k = 0; k < strokes.length; k++) {
            at = step(at, strokes[k]);
            if (at < 0 || !isRipe(at, weeks) || shorn.contains(at)) {
                return what == 1 ? k : -100 - k;
            }
            shorn.add(at);
        }
        int set = 0;
        int inches = 0;
        for (int cell : shorn) {
            set += 1 << cell;
            inches += coatNow(cell, weeks);
        }
        return new long[] {at, -9, set, inches}[what];
    }

    /** All paths from c, as texts of strokes. */
    private void paths(int set, int c, String strokes, List<String> all) {
        all.add(strokes);
        for (int stroke = 3; stroke >= 0; stroke--) {
            int next = step(c, stroke);
            if (next >= 0 && (set >> next & 1) == 1) {
                paths(set - (1 << next), next, strokes + stroke, all);
            }
        }
    }

    private String best(int c, int weeks) {
        List<String> all = new ArrayList<>();
        paths(ripeSet(weeks) - (1 << c), c, "", all);
        String best = "";
        for (String one : all) {
            boolean isMore = one.length() > best.length();
            best = isMore || one.length() == best.length() && one.compareTo(best) < 0 ? one : best;
        }
        return best;
    }

    long fleece(int weeks, int c, int k) {
        if (!isCell(c)) {
            return -1;
        }
        if (!in(weeks, 0, 9) || !in(k, -1, 14)) {
            return -2;
        }
        if (!isRipe(c, weeks)) {
            return -3;
        }
        String best = best(c, weeks);
        return k == -1 ? best.length() + 1 : k < best.length() ? best.charAt(k) - '0' : -9;
    }

    long start(int weeks) {
        if (cells() == 0 || !in(weeks, 0, 9)) {
            return cells() == 0 ? -3 : -2;
        }
        int[] has = new int[cells()];
        for (int c = 0; c < cells(); c++) {
            has[c] = isRipe(c, weeks) ? best(c, weeks).length() + 1 : 0;
        }
        int most = Arrays.stream(has).max().getAsInt();
        for (int c = 0; c < cells(); c++) {
            if (has[c] == most && most > 0) {
                return c;
            }
        }
        return -9;
    }

    private int soft() {
        int soft = 0;
        for (int c = 0; c < cells(); c++) {
            soft += isSoft(c) ? 1 : 0;
        }
        return soft;
    }

    long whole(int c) {
        if (!isSoft(c)) {
            return -1;
        }
        for (int weeks = 0; weeks < 10; weeks++) {
            if (isRipe(c, weeks) && best(c, weeks).length() + 1 == soft()) {
                return weeks;
            }
        }
        return -9;
    }

    private boolean hasWhole(int weeks) {
        for (int c = 0; c < cells(); c++) {
            boolean canBe = isRipe(c, weeks) && Integer.bitCount(ripeSet(weeks)) == soft();
            if (canBe && best(c, weeks).length() + 1 == soft()) {
                return true;
            }
        }
        return false;
    }

    long stops(int weeks) {
        if (cells() == 0 || !in(weeks, 0, 9)) {
            return cells() == 0 ? -3 : -2;
        }
        if (hasWhole(weeks)) {
            return -9;
        }
        for (int c = 0; c < cells(); c++) {
            if (letter(c) == '#') {
                rows[c / wide()][c % wide()] = 'g';
                boolean has = hasWhole(weeks);
                rows[c / wide()][c % wide()] = '#';
                if (has) {
                    return c;
                }
            }
        }
        return -9;
    }

    long reading(int c, int weeks, int v) {
        if (!isSoft(c)) {
            return -1;
        }
        if (!in(weeks, 0, 9) || !in(v, 0, 9)) {
            return -2;
        }
        if (readings.size() == 8) {
            return -4;
        }
        readings.add(new int[] {c, weeks, v});
        return readings.size() - 1;
    }

    long back(int k) {
        if (!in(k, 0, readings.size())) {
            return -2;
        }
        readings = new ArrayList<>(readings.subList(0, readings.size() - k));
        return readings.size();
    }

    /** Whether all readings are so, if cell c (none: -1) were of a kind of which goats ate so much. */
    private boolean areSo(int supposedPace, int c, char letter, int supposedEaten) {
        for (int[] r : readings) {
            char kind = r[0] == c ? letter : letter(r[0]);
            int eaten = r[0] == c ? supposedEaten : ate[r[0]];
            if (coat(kind, supposedPace, eaten, r[1]) != r[2]) {
                return false;
            }
        }
        return true;
    }

    long kinds(int c) {
        if (!isSoft(c)) {
            return -1;
        }
        int set = 0;
        for (int k = 0; k < 3; k++) {
            set += areSo(pace, c, LETTERS.charAt(k), ate[c]) ? 1 << k : 0;
        }
        return set;
    }

    long paces() {
        if (cells() == 0) {
            return -3;
        }
        int set = 0;
        for (int k = 1; k < 4; k++) {
            set += areSo(k, -1, '#', 0) ? 1 << k : 0;
        }
        return set;
    }

    long eatings(int c) {
        if (!isSoft(c)) {
            return -1;
        }
        int set = 0;
        for (int k = 0; k < 10; k++) {
            set += areSo(pace, c, letter(c), k) ? 1 << k : 0;
        }
        return set;
    }

    long odds(int weeks, int c, int which) {
        if (!isCell(c) || !in(weeks, 0, 9) || !in(which, 0, 1) || !isRipe(c, weeks)) {
            return Long.MIN_VALUE;
        }
        BigInteger[] share = share(ripeSet(weeks) - (1 << c), c);
        return share[which].longValueExact();
    }

    private BigInteger[] share(int set, int c) {
        BigInteger upper = set == 0 ? BigInteger.ONE : BigInteger.ZERO;
        BigInteger lower = BigInteger.ONE;
        int choices = 0;
        for (int stroke = 0; stroke < 4; stroke++) {
            int next = step(c, stroke);
            if (next >= 0 && (set >> next & 1) == 1) {
                BigInteger[] one = share(set - (1 << next), next);
                upper = upper.multiply(one[1]).add(one[0].multiply(lower));
                lower = lower.multiply(one[1]);
                choices++;
            }
        }
        lower = lower.multiply(BigInteger.valueOf(Math.max(1, choices)));
        BigInteger divisor = upper.gcd(lower);
        return new BigInteger[] {upper.divide(divisor), lower.divide(divisor)};
    }

    long sheet(int k, int lane, int n) {
        return faulty(() -> {
            if (!in(k, 0, 3)) {
                return -1;
            }
            if (!in(lane, 0, 2) || n > 60) {
                return -2;
            }
            sheets[k] = newRow(lane, n);
            return 1;
        }, false);
    }

    long lose(int k) {
        if (!in(k, 0, 3)) {
            return -1;
        }
        boolean had = sheets[k] != null;
        sheets[k] = null;
        return had ? 1 : 0;
    }

    long put(int k, int i, int v) {
        return faulty(() -> {
            if (!in(k, 0, 3)) {
                return -1;
            }
            if (sheets[k] instanceof byte[] bytes) {
                bytes[i] = (byte) v;
            } else if (sheets[k] instanceof short[] shorts) {
                shorts[i] = (short) v;
            } else {
                ((int[]) sheets[k])[i] = v;
            }
            return 1;
        }, false);
    }

    long cell(int k, int i, int lane) {
        return faulty(() -> {
            if (!in(k, 0, 3) || !in(lane, 0, 2)) {
                return Long.MIN_VALUE;
            }
            return lane == 0 ? ((byte[]) sheets[k])[i] : lane == 1 ? ((short[]) sheets[k])[i]
                : ((int[]) sheets[k])[i];
        }, true);
    }

    long copy(int k, int i, int other, int j, int n) {
        return faulty(() -> {
            if (!in(k, 0, 3) || !in(other, 0, 3)) {
                return -1;
            }
            System.arraycopy(sheets[k], i, sheets[other], j, n);
            return n;
        }, false);
    }

    private static class Grass {
        final Model hill;
        final int cell;

        Grass(Model hill, int cell) {
            this.hill = hill;
            this.cell = cell;
        }

        long tell() {
            hill.begin(1);
            return hill.ate[cell];
        }

        long trod() {
            hill.begin(4);
            return cell;
        }
    }

    private static class Spring extends Grass {
        Spring(Model hill, int cell) {
            super(hill, cell);
        }

        @Override
        long tell() {
            hill.begin(2);
            return super.tell() + 100;
        }
    }

    private static final class Hollow extends Spring {
        Hollow(Model hill, int cell) {
            super(hill, cell);
        }

        @Override
        long tell() {
            hill.begin(3);
            return super.tell() + new Grass(hill, cell).tell();
        }

        @Override
        long trod() {
            hill.begin(5);
            return 40;
        }
    }

    private void begin(int body) {
        trace = trace * 31 + body;
    }

    private Grass object(int c) {
        return letter(c) == 'g' ? new Grass(this, c) : letter(c) == 's' ? new Spring(this, c) : new Hollow(this, c);
    }

    long tell(int c) {
        return isSoft(c) ? object(c).tell() : -1;
    }

    long trod(int c) {
        return isSoft(c) ? object(c).trod() : -1;
    }

    long as(int c, int kind) {
        return faulty(() -> {
            if (!isSoft(c)) {
                return -1;
            }
            if (!in(kind, 0, 2)) {
                return -2;
            }
            List.of(Grass.class, Spring.class, Hollow.class).get(kind).cast(object(c));
            return 1;
        }, false);
    }

    long trace() {
        return trace;
    }

    long fault() {
        return fault;
    }

    long many(int what) {
        int[] all = {cells(), wide(), pace, breadth, cells() - soft(), readings.size()};
        return in(what, 0, 5) ? all[what] : -2;
    }
}
