import java.util.NoSuchElementException;

/** Promises 34 to 37: LEVELS, the RULE and OUT. */
public final class LevelTest {
    private static final long PRIME = 998244353L;

    private LevelTest() {
    }

    public static void main(String[] args) {
        promise34Far();
        promise34FarOfAnyLength();
        promise34FarRefused();
        promise35And36Rule();
        promise35RuleIsShortest();
        promise35RuleRefused();
        promise36Part();
        promise37Out();
        Check.end();
    }

    private static void promise34Far() {
        WalkBench x = new WalkBench();
        // TOP is 5 at first; two of the STEPS are level
        long[] due = {1, 2, 5, 14, 42, 132, 429, 1430, 4862, 16796, 58786, 208012};
        for (int n = 0; n < due.length; n++) {
            Check.fine(x, "far(" + n + ")", x.far(n), due[n]);
        }
        // the first that a height above 5 is wanting in has 12 steps
        Check.fine(x, "far(12)", x.far(12), 742900 - 1);
        Check.holds("kind(2, 0)", x.kind(2, 0));
        Check.fine(x, "far(10), one line", x.far(10), 1024);
        Check.holds("kind(0, 0)", x.kind(0, 0));
        Check.fine(x, "far(10), TOP is as told", x.far(10), 1024);
        Check.fine(x, "far(29)", x.far(29), 536870912);
        Check.fine(x, "far(30), as a rest", x.far(30), (1L << 30) - PRIME);
        Check.fine(x, "far(PRIME - 1)", x.far(PRIME - 1), 1);
        Check.fine(x, "far(PRIME)", x.far(PRIME), 2);
        Check.holds("bar", x.bar(0, 0, true));
        Check.fine(x, "far(3), what is BARRED is not looked at", x.far(3), 8);
        Check.holds("from", x.from(-30, 0));
        Check.holds("to", x.to(30, 0));
        Check.fine(x, "far(3), x is not looked at", x.far(3), 8);
        Check.steps(x, 0, 1, 0, -1);
        Check.fine(x, "far(0)", x.far(0), 1);
        Check.fine(x, "far(1), none", x.far(1), 0);
        Check.fine(x, "far(MAX), none", x.far(Long.MAX_VALUE), 0);
    }

    private static void promise34FarOfAnyLength() {
        int[][] benches = {{30, 0, 0}, {30, 7, 22}, {5, 5, 0}, {1, 0, 1}, {12, 3, 4}, {29, 29, 28}, {0, 0, 0}};
        int[][] steps = {
            {0, 1, 0, -1}, {1, 3, 1, -2, 0, 1}, {1, 1, 2, 1, 3, -1, 0, 3, 1, 0, 0, -3, 0, -2, 1, -2}, {0, 2, 0, -2, 1, 0}, {2, 1},
        };
        long[] lengths = {0, 1, 2, 30, 61, 62, 63, 64, 99, 1000, 123456789, 4000000000L, PRIME, Long.MAX_VALUE - 1, Long.MAX_VALUE};
        for (int[] b : benches) {
            for (int[] s : steps) {
                WalkBench x = new WalkBench();
                Check.steps(x, s);
                Check.holds("kind", x.kind(2, b[0]));
                Check.holds("from", x.from(1, b[1]));
                Check.holds("to", x.to(-1, b[2]));
                for (long n : lengths) {
                    Check.fine(x, "far(" + n + ")", x.far(n), byMatrix(b[0], s, n)[b[1]][b[2]]);
                }
            }
        }
    }

    private static long[][] byMatrix(int top, int[] steps, long n) {
        long[][] once = new long[top + 1][top + 1];
        long[][] found = new long[top + 1][top + 1];
        for (int h = 0; h <= top; h++) {
            found[h][h] = 1;
            for (int k = 1; k < steps.length; k += 2) {
                int high = h + steps[k];
                if (high >= 0 && high <= top) {
                    once[h][high]++;
                }
            }
        }
        for (long left = n; left > 0; left >>= 1) {
            if ((left & 1) != 0) {
                found = times(found, once);
            }
            once = times(once, once);
        }
        return found;
    }

    private static long[][] times(long[][] one, long[][] other) {
        int size = one.length;
        long[][] product = new long[size][size];
        for (int i = 0; i < size; i++) {
            for (int j = 0; j < size; j++) {
                for (int k = 0; k < size; k++) {
                    product[i][j] = (product[i][j] + one[i][k] * other[k][j]) % PRIME;
                }
            }
        }
        return product;
    }

    private static void promise34FarRefused() {
        WalkBench x = new WalkBench();
        Check.holds("from", x.from(0, 6));
        Check.refused(x, "far(-1), the number ahead of A", x.far(-1), 2);
        Check.refused(x, "far(MIN)", x.far(Long.MIN_VALUE), 2);
        Check.refused(x, "far(1), A is above TOP", x.far(1), 7);
        Check.holds("from", x.from(0, -1));
        Check.refused(x, "far(1), A is below 0", x.far(1), 7);
        Check.holds("from", x.from(0, 5));
        Check.holds("to", x.to(0, 6));
        Check.refused(x, "far(1), B is above TOP", x.far(1), 7);
        Check.holds("to", x.to(0, -1));
        Check.refused(x, "far(1), B is below 0", x.far(1), 7);
        Check.holds("to", x.to(0, 5));
        Check.fine(x, "far(1)", x.far(1), 2);
        Check.holds("kind(2, 4)", x.kind(2, 4));
        Check.refused(x, "far(1), another TOP", x.far(1), 7);
        Check.refused(x, "rule(), another TOP", x.rule(), 7);
    }

    private static void promise35And36Rule() {
        WalkBench x = new WalkBench();
        Check.holds("kind(2, 2)", x.kind(2, 2));
        Check.steps(x, 1, 1, 1, -1);
        // 1, 0, 1, 0, 2, 0, 4: twice the last but one, but not from the first on
        parts(x, 0, 2, 0);
        Check.holds("from", x.from(0, 1));
        Check.holds("to", x.to(0, 1));
        parts(x, 0, 2);
        Check.holds("to", x.to(0, 0));
        parts(x, 0, 2);
        Check.holds("kind(2, 0)", x.kind(2, 0));
        Check.holds("from", x.from(0, 0));
        parts(x, 0);
        Check.steps(x, 1, 0, 2, 0, 3, 0);
        parts(x, 3);
        Check.holds("kind(2, 5)", x.kind(2, 5));
        Check.holds("to", x.to(0, 1));
        parts(x);
        Check.steps(x, 0, 1);
        Check.holds("to", x.to(0, 3));
        // one alone that is not 0, at n 3
        parts(x, 0, 0, 0, 0);
        Check.steps(x, 1, 1, 1, -1);
        Check.holds("kind(2, 3)", x.kind(2, 3));
        Check.holds("to", x.to(0, 0));
        // 1, 0, 1, 0, 2, 0, 5, 0, 13: every other Fibonacci number
        parts(x, 0, 3, 0, PRIME - 1);
    }

    private static void parts(WalkBench x, long... due) {
        Check.fine(x, "rule()", x.rule(), due.length);
        for (int k = 1; k <= due.length; k++) {
            Check.fine(x, "part(" + k + ")", x.part(k), due[k - 1]);
        }
        Check.refused(x, "part beyond the RULE", x.part(due.length + 1), 8);
        Check.refused(x, "part(0)", x.part(0), 8);
    }

    private static void promise35RuleIsShortest() {
        int[][] steps = {
            {0, 1, 0, -1}, {1, 3, 1, -2, 0, 1}, {1, 1, 2, 1, 3, -1, 0, 3, 1, 0, 0, -3, 0, -2, 1, -2}, {0, 2, 0, -2, 1, 0}, {0, 3, 0, -1},
        };
        for (int[] s : steps) {
            for (int top = 0; top <= 30; top += 5) {
                WalkBench x = new WalkBench();
                Check.steps(x, s);
                Check.holds("kind", x.kind(2, top));
                Check.holds("from", x.from(0, top / 3));
                Check.holds("to", x.to(0, top / 2));
                int d = x.rule();
                Check.same("status() after rule()", x.status(), 0);
                long[] parts = new long[d + 1];
                for (int k = 1; k <= d; k++) {
                    parts[k] = x.part(k);
                    Check.holds("part from 0 to 998,244,352", parts[k] >= 0 && parts[k] < PRIME);
                }
                long[] levels = new long[71];
                for (int n = 0; n < levels.length; n++) {
                    levels[n] = x.far(n);
                }
                Check.same("the length of the RULE", d, rank(levels));
                for (int n = d; n < levels.length; n++) {
                    long sum = 0;
                    for (int k = 1; k <= d; k++) {
                        sum = (sum + parts[k] * levels[n - k]) % PRIME;
                    }
                    Check.same("the RULE at " + n, sum, levels[n]);
                }
            }
        }
    }

    /** The rank of the numbers LEVELS of i + j is the length of the shortest RULE. */
    private static int rank(long[] levels) {
        int size = 33;
        long[][] m = new long[size][size];
        for (int i = 0; i < size; i++) {
            for (int j = 0; j < size; j++) {
                m[i][j] = levels[i + j];
            }
        }
        int rank = 0;
        for (int c = 0; c < size; c++) {
            int pivot = rank;
            while (pivot < size && m[pivot][c] == 0) {
                pivot++;
            }
            if (pivot == size) {
                continue;
            }
            long[] row = m[pivot];
            m[pivot] = m[rank];
            m[rank] = row;
            for (int r = rank + 1; r < size; r++) {
                long share = m[r][c];
                long whole = row[c];
                for (int i = 0; i < size; i++) {
                    m[r][i] = Math.floorMod(m[r][i] * whole - share * row[i] % PRIME, PRIME);
                }
            }
            rank++;
        }
        return rank;
    }

    private static void promise35RuleRefused() {
        WalkBench x = new WalkBench();
        Check.holds("to", x.to(0, 6));
        Check.refused(x, "rule(), B is above TOP", x.rule(), 7);
        Check.holds("to", x.to(0, -1));
        Check.refused(x, "rule(), B is below 0", x.rule(), 7);
        Check.holds("to", x.to(0, 0));
        Check.holds("from", x.from(0, 6));
        Check.refused(x, "rule(), A is above TOP", x.rule(), 7);
        Check.holds("from", x.from(0, -1));
        Check.refused(x, "rule(), A is below 0", x.rule(), 7);
        Check.refused(x, "part(1), no RULE was found", x.part(1), 8);
        Check.holds("from", x.from(0, 0));
        Check.holds("kind", x.kind(4, 1));
        Check.holds("bar", x.bar(0, 0, true));
        Check.holds("rule(), whatever KIND is", x.rule() > 0);
    }

    private static void promise36Part() {
        WalkBench x = new WalkBench();
        Check.refused(x, "part(1), no RULE yet", x.part(1), 8);
        Check.holds("kind(2, 0)", x.kind(2, 0));
        Check.fine(x, "far(100)", x.far(100), byMatrix(0, new int[] {1, 0, 2, 0}, 100)[0][0]);
        Check.refused(x, "part(1), far() finds none", x.part(1), 8);
        Check.fine(x, "rule()", x.rule(), 1);
        Check.fine(x, "part(1)", x.part(1), 2);
        Check.holds("kind(2, 3)", x.kind(2, 3));
        Check.steps(x, 1, 1, 1, -1);
        Check.fine(x, "far(70)", x.far(70), byMatrix(3, new int[] {1, 1, 1, -1}, 70)[0][0]);
        Check.fine(x, "part(1) of the latest RULE", x.part(1), 2);
        Check.refused(x, "part(2) of the latest RULE", x.part(2), 8);
        Check.holds("from", x.from(0, 9));
        Check.refused(x, "rule()", x.rule(), 7);
        Check.fine(x, "part(1) after a refused rule()", x.part(1), 2);
        Check.refused(x, "part(0)", x.part(0), 8);
        Check.refused(x, "part(-1)", x.part(-1), 8);
        Check.refused(x, "part(MAX)", x.part(Integer.MAX_VALUE), 8);
        Check.refused(x, "part(MIN)", x.part(Integer.MIN_VALUE), 8);
    }

    private static void promise37Out() {
        WalkBench x = new WalkBench();
        none(x, 0);
        Check.fine(x, "walk(2, 0)", x.walk(2, 0), 2);
        Check.same("out(0)", x.out(0), '0');
        Check.same("out(1)", x.out(1), '2');
        none(x, 2);
        none(x, -1);
        none(x, Integer.MAX_VALUE);
        none(x, Integer.MIN_VALUE);
        Check.fine(x, "brackets(2, 1)", x.brackets(2, 1), 4);
        Check.shows(x, "brackets(2, 1)", "()()");
        none(x, 4);
        Check.fine(x, "walk(2, 3)", x.walk(2, 3), 2);
        Check.shows(x, "walk(2, 3)", "31");
        Check.fine(x, "brackets(30, 0)", x.brackets(30, 0), 60);
        Check.same("out(59)", x.out(59), ')');
        none(x, 60);
        Check.fine(x, "brackets(0, 0)", x.brackets(0, 0), 0);
        none(x, 0);
    }

    private static void none(WalkBench x, int k) {
        boolean thrown = false;
        int status = x.status();
        try {
            x.out(k);
        } catch (NoSuchElementException e) {
            thrown = true;
        }
        Check.holds("out(" + k + ") throws NoSuchElementException", thrown);
        Check.same("status() after out(" + k + ")", x.status(), status);
    }
}
