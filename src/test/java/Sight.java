import java.util.ArrayList;
import java.util.Arrays;
import java.util.List;

/**
 * All that can be seen of an object, but fault(): looking at sheets changes that one. Readings are
 * seen by what follows from them, one taken back after the other, so that an object is looked at last.
 */
final class Sight {
    private static final int CELLS = 16;
    private static final int LONGEST = 60;

    private Sight() {
    }

    static long[] of(ShornHill x) {
        List<Long> seen = new ArrayList<>();
        seen.add((long) x.trace());
        for (int what = 0; what <= 5; what++) {
            seen.add((long) x.many(what));
        }
        for (int c = 0; c < CELLS; c++) {
            for (int what = 0; what <= 2; what++) {
                seen.add((long) x.ofCell(c, what));
            }
        }
        for (int k = 0; k < 4; k++) {
            for (int lane = 0; lane <= 2; lane++) {
                lookAtRow(x, k, lane, seen);
            }
        }
        lookAtReadings(x, seen);
        return seen.stream().mapToLong(v -> v).toArray();
    }

    private static void lookAtRow(ShornHill x, int k, int lane, List<Long> seen) {
        for (int i = 0; i <= LONGEST; i++) {
            long v = x.cell(k, i, lane);
            seen.add(v);
            if (v == ShornHill.LOST) {
                seen.add((long) x.fault());
                return;
            }
        }
    }

    private static void lookAtReadings(ShornHill x, List<Long> seen) {
        int cells = x.many(0);
        do {
            seen.add((long) x.paces());
            for (int c = 0; c < cells; c++) {
                seen.add((long) x.kinds(c));
                seen.add((long) x.eatings(c));
            }
        } while (x.back(1) >= 0);
    }

    /** Looks at x: it is due to be as it was seen elsewhere. */
    static void same(String label, ShornHill x, long[] want) {
        same(label, of(x), want);
    }

    /** As same, but for the trace, which is looked at first. */
    static void sameButTrace(String label, ShornHill x, long[] want) {
        long[] got = of(x);
        got[0] = want[0];
        same(label, got, want);
    }

    private static void same(String label, long[] got, long[] want) {
        int unlike = Arrays.mismatch(got, want);
        if (unlike >= 0) {
            Checks.due(label + ": what is seen at " + unlike, at(got, unlike), at(want, unlike));
            Checks.due(label + ": nothing changes", 1, 0);
        }
    }

    private static long at(long[] seen, int k) {
        return k < seen.length ? seen[k] : -1;
    }
}
