import java.math.BigInteger;
import java.util.ArrayList;
import java.util.HashMap;
import java.util.List;
import java.util.Map;

/** The document again, counted the plainest way and with numbers of any size: what RunsTest holds WalkBench against. */
final class PlainBench {
    private static final BigInteger GREAT = BigInteger.TWO.pow(62);
    private static final long PRIME = 998244353L;

    private final int[][] sheets = new int[4][];
    private final int[] sorts = new int[4];
    private int[][] steps = {{1, 0, 1}, {0, 1, 1}, {-1, 0, 1}, {0, -1, 1}};
    private final Map<Integer, Boolean> barred = new HashMap<>();
    private int kind;
    private int top = 5;
    private int round = 6;
    private int[] a = {0, 0};
    private int[] b = {0, 0};
    private int[][] kin = new int[0][];
    private long[] parts = new long[0];
    private int status;
    private String out = "";

    int status() {
        return status;
    }

    String out() {
        return out;
    }

    private long fail(int why) {
        status = why;
        return -1;
    }

    private boolean no(int why) {
        status = why;
        return false;
    }

    private long is(long answer) {
        status = 0;
        return answer;
    }

    private boolean yes() {
        status = 0;
        return true;
    }

    private static boolean isSheet(int s) {
        return s >= 0 && s <= 3;
    }

    private static boolean isSquare(int x, int y) {
        return Math.abs((long) x) <= 30 && Math.abs((long) y) <= 30;
    }

    boolean sheet(int s, int sort, int many) {
        if (!isSheet(s) || sort < 0 || sort > 2) {
            return no(1);
        }
        if (many > 64) {
            return no(2);
        }
        if (many < 0) {
            return no(6);
        }
        sheets[s] = new int[many];
        sorts[s] = sort;
        return yes();
    }

    boolean write(int s, int place, int v) {
        if (!isSheet(s)) {
            return no(1);
        }
        if (sheets[s] == null) {
            return no(3);
        }
        if (place < 0 || place >= sheets[s].length) {
            return no(4);
        }
        sheets[s][place] = sorts[s] == 0 ? (byte) v : sorts[s] == 1 ? (short) v : v;
        return yes();
    }

    long read(int s, int place) {
        if (!isSheet(s)) {
            return fail(1);
        }
        if (sheets[s] == null) {
            return fail(3);
        }
        if (place < 0 || place >= sheets[s].length) {
            return fail(4);
        }
        return is(sheets[s][place]);
    }

    boolean pour(int s, int i, int to, int j, int many) {
        if (!isSheet(s) || !isSheet(to)) {
            return no(1);
        }
        if (sheets[s] == null || sheets[to] == null) {
            return no(3);
        }
        if (sorts[s] != sorts[to]) {
            return no(11);
        }
        if (many < 0) {
            return no(6);
        }
        if (i < 0 || j < 0 || (long) i + many > sheets[s].length || (long) j + many > sheets[to].length) {
            return no(4);
        }
        int[] copy = sheets[s].clone();
        for (int k = 0; k < many; k++) {
            sheets[to][j + k] = copy[i + k];
        }
        return yes();
    }

    boolean steps(int s, int many) {
        if (!isSheet(s)) {
            return no(1);
        }
        if (sheets[s] == null) {
            return no(3);
        }
        if (many < 1 || many > 8) {
            return no(2);
        }
        if (sheets[s].length < 2 * many) {
            return no(4);
        }
        int[][] told = new int[many][];
        for (int k = 0; k < many; k++) {
            told[k] = new int[] {sheets[s][2 * k], sheets[s][2 * k + 1], 1};
            boolean good = told[k][0] >= -3 && told[k][0] <= 3 && told[k][1] >= -3 && told[k][1] <= 3;
            good &= told[k][0] != 0 || told[k][1] != 0;
            for (int j = 0; j < k; j++) {
                good &= told[j][0] != told[k][0] || told[j][1] != told[k][1];
            }
            if (!good) {
                return no(2);
            }
        }
        steps = told;
        return yes();
    }

    long step(int k, int what) {
        if (what < 0 || what > 2) {
            return fail(2);
        }
        if (k < 0 || k >= steps.length) {
            return fail(8);
        }
        return is(steps[k][what]);
    }

    boolean told(int k, int weight) {
        if (k < 0 || k >= steps.length) {
            return no(8);
        }
        if (weight < 0 || weight > 9) {
            return no(2);
        }
        steps[k][2] = weight;
        return yes();
    }

    boolean kind(int newKind, int size) {
        int[] low = {0, 0, 0, 0, 1};
        int[] high = {0, 0, 30, 0, 30};
        if (newKind < 0 || newKind > 4 || size < low[newKind] || size > high[newKind]) {
            return no(2);
        }
        kind = newKind;
        top = kind == 2 ? size : top;
        round = kind == 4 ? size : round;
        return yes();
    }

    private static int key(int x, int y) {
        return 1000 * y + x;
    }

    boolean bar(int x, int y, boolean on) {
        if (!isSquare(x, y)) {
            return no(2);
        }
        if (on) {
            barred.put(key(x, y), true);
        } else {
            barred.remove(key(x, y));
        }
        return yes();
    }

    long wall(int s, int many) {
        if (!isSheet(s)) {
            return fail(1);
        }
        if (sheets[s] == null) {
            return fail(3);
        }
        if (many < 0) {
            return fail(2);
        }
        if (2L * many > sheets[s].length) {
            return fail(4);
        }
        for (int k = 0; k < many; k++) {
            if (!isSquare(sheets[s][2 * k], sheets[s][2 * k + 1])) {
                return fail(2);
            }
        }
        int before = barred.size();
        for (int k = 0; k < many; k++) {
            barred.put(key(sheets[s][2 * k], sheets[s][2 * k + 1]), true);
        }
        return is(barred.size() - before);
    }

    boolean from(int x, int y) {
        if (!isSquare(x, y)) {
            return no(2);
        }
        a = new int[] {x, y};
        return yes();
    }

    boolean to(int x, int y) {
        if (!isSquare(x, y)) {
            return no(2);
        }
        b = new int[] {x, y};
        return yes();
    }

    private boolean isOpen(int x, int y) {
        if (!isSquare(x, y) || barred.containsKey(key(x, y))) {
            return false;
        }
        return switch (kind) {
            case 1 -> y >= 0;
            case 2 -> y >= 0 && y <= top;
            case 3 -> x >= 0 && y >= 0;
            case 4 -> x >= 0 && x < round;
            default -> true;
        };
    }

    private boolean endsOpen() {
        return isOpen(a[0], a[1]) && isOpen(b[0], b[1]);
    }

    long open(int x, int y) {
        return isSquare(x, y) ? is(isOpen(x, y) ? 1 : 0) : fail(2);
    }

    private int[] next(int x, int y, int k) {
        int px = x + steps[k][0];
        int py = y + steps[k][1];
        if (kind == 4) {
            px = (px % round + round) % round;
        }
        return isOpen(px, py) ? new int[] {px, py} : null;
    }

    /** How many walks of n lead from a square to each other. */
    private Map<Integer, BigInteger> reached(int x, int y, int n) {
        Map<Integer, BigInteger> now = new HashMap<>();
        now.put(key(x, y), BigInteger.ONE);
        for (int i = 0; i < n; i++) {
            Map<Integer, BigInteger> then = new HashMap<>();
            for (Map.Entry<Integer, BigInteger> e : now.entrySet()) {
                int py = Math.floorDiv(e.getKey() + 500, 1000);
                int px = e.getKey() - 1000 * py;
                for (int k = 0; k < steps.length; k++) {
                    int[] p = next(px, py, k);
                    if (p != null) {
                        then.merge(key(p[0], p[1]), e.getValue(), BigInteger::add);
                    }
                }
            }
            now = then;
        }
        return now;
    }

    private BigInteger ways(int x, int y, int n) {
        return reached(x, y, n).getOrDefault(key(b[0], b[1]), BigInteger.ZERO);
    }

    private long told(BigInteger number) {
        return number.compareTo(GREAT) >= 0 ? fail(9) : is(number.longValueExact());
    }

    long count(int n) {
        if (n < 0 || n > 60) {
            return fail(2);
        }
        return endsOpen() ? told(ways(a[0], a[1], n)) : fail(7);
    }

    long all(int n) {
        if (n < 0 || n > 60) {
            return fail(2);
        }
        if (!isOpen(a[0], a[1])) {
            return fail(7);
        }
        BigInteger sum = BigInteger.ZERO;
        for (BigInteger v : reached(a[0], a[1], n).values()) {
            sum = sum.add(v);
        }
        return told(sum);
    }

    long least() {
        if (!endsOpen()) {
            return fail(7);
        }
        List<int[]> seen = new ArrayList<>();
        Map<Integer, Integer> far = new HashMap<>();
        seen.add(a);
        far.put(key(a[0], a[1]), 0);
        for (int i = 0; i < seen.size(); i++) {
            int[] p = seen.get(i);
            for (int k = 0; k < steps.length; k++) {
                int[] q = next(p[0], p[1], k);
                if (q != null && !far.containsKey(key(q[0], q[1]))) {
                    far.put(key(q[0], q[1]), far.get(key(p[0], p[1])) + 1);
                    seen.add(q);
                }
            }
        }
        int n = far.getOrDefault(key(b[0], b[1]), 61);
        return n <= 60 ? is(n) : fail(8);
    }

    private int weighFault(int weight, int n) {
        if (weight < 0 || weight > 3 || n < 0 || n > 14) {
            return 2;
        }
        if (weight == 2 && (kind == 0 || kind == 4)) {
            return 5;
        }
        return endsOpen() ? 0 : 7;
    }

    /** Of the walks of n, how many have each weight: by square, last step and weight so far. */
    private Map<Integer, Long> weighed(int weight, int n) {
        Map<List<Integer>, Long> now = new HashMap<>();
        now.put(List.of(a[0], a[1], -1, 0), 1L);
        for (int i = 0; i < n; i++) {
            Map<List<Integer>, Long> then = new HashMap<>();
            for (Map.Entry<List<Integer>, Long> e : now.entrySet()) {
                List<Integer> s = e.getKey();
                for (int k = 0; k < steps.length; k++) {
                    int[] p = next(s.get(0), s.get(1), k);
                    if (p == null) {
                        continue;
                    }
                    int[] gains = {p[1] == 0 ? 1 : 0, s.get(2) >= 0 && s.get(2) != k ? 1 : 0, p[1], steps[k][2]};
                    int last = weight == 1 ? k : -1;
                    then.merge(List.of(p[0], p[1], last, s.get(3) + gains[weight]), e.getValue(), Long::sum);
                }
            }
            now = then;
        }
        Map<Integer, Long> found = new HashMap<>();
        for (Map.Entry<List<Integer>, Long> e : now.entrySet()) {
            if (e.getKey().get(0) == b[0] && e.getKey().get(1) == b[1]) {
                found.merge(e.getKey().get(3), e.getValue(), Long::sum);
            }
        }
        return found;
    }

    long sum(int weight, int n, int k) {
        int fault = k < 0 || k > 120 ? 2 : weighFault(weight, n);
        return fault != 0 ? fail(fault) : is(weighed(weight, n).getOrDefault(k, 0L));
    }

    long best(int weight, int n, boolean greatest) {
        int fault = weighFault(weight, n);
        if (fault != 0) {
            return fail(fault);
        }
        Integer found = null;
        for (int w : weighed(weight, n).keySet()) {
            found = found == null ? Integer.valueOf(w) : Integer.valueOf(greatest ? Math.max(found, w) : Math.min(found, w));
        }
        return found == null ? fail(8) : is(found);
    }

    long walk(int n, long k) {
        if (n < 0 || n > 60) {
            return fail(2);
        }
        if (!endsOpen()) {
            return fail(7);
        }
        BigInteger total = ways(a[0], a[1], n);
        if (k < 0) {
            return fail(8);
        }
        if (total.compareTo(GREAT) >= 0) {
            return fail(9);
        }
        if (total.compareTo(BigInteger.valueOf(k)) <= 0) {
            return fail(8);
        }
        StringBuilder word = new StringBuilder();
        long left = k;
        int[] at = a;
        for (int i = 0; i < n; i++) {
            for (int s = 0; s < steps.length; s++) {
                int[] p = next(at[0], at[1], s);
                long those = p == null ? 0 : ways(p[0], p[1], n - i - 1).longValueExact();
                if (left < those) {
                    word.append(s);
                    at = p;
                    break;
                }
                left -= those;
            }
        }
        out = word.toString();
        return is(n);
    }

    private long rowFault(int s, int many, int most, boolean even) {
        if (!isSheet(s)) {
            return 1;
        }
        if (many < 0 || many > most || (even && many % 2 != 0)) {
            return 2;
        }
        if (sheets[s] == null) {
            return 3;
        }
        return sheets[s].length < many ? 4 : 0;
    }

    long number(int s, int many) {
        int fault = (int) rowFault(s, many, 60, false);
        if (fault != 0) {
            return fail(fault);
        }
        if (!endsOpen()) {
            return fail(7);
        }
        int[] at = a;
        for (int i = 0; i < many && at != null; i++) {
            int k = sheets[s][i];
            at = k < 0 || k >= steps.length ? null : next(at[0], at[1], k);
        }
        if (at == null || at[0] != b[0] || at[1] != b[1]) {
            return fail(8);
        }
        if (ways(a[0], a[1], many).compareTo(GREAT) >= 0) {
            return fail(9);
        }
        BigInteger found = BigInteger.ZERO;
        at = a;
        for (int i = 0; i < many; i++) {
            for (int k = 0; k < sheets[s][i]; k++) {
                int[] p = next(at[0], at[1], k);
                found = p == null ? found : found.add(ways(p[0], p[1], many - i - 1));
            }
            at = next(at[0], at[1], sheets[s][i]);
        }
        return is(found.longValueExact());
    }

    long draw(int n, int seed) {
        if (n < 0 || n > 60 || seed < 0) {
            return fail(2);
        }
        if (!endsOpen()) {
            return fail(7);
        }
        BigInteger total = ways(a[0], a[1], n);
        if (total.signum() == 0) {
            return fail(8);
        }
        if (total.compareTo(GREAT) >= 0) {
            return fail(9);
        }
        BigInteger s = BigInteger.valueOf(seed);
        int bits = total.subtract(BigInteger.ONE).bitLength();
        BigInteger number = BigInteger.ZERO;
        for (int tries = 0; tries < 64; tries++) {
            StringBuilder word = new StringBuilder();
            for (int i = 0; i < 5; i++) {
                s = s.multiply(BigInteger.valueOf(1103515245)).add(BigInteger.valueOf(12345)).mod(BigInteger.TWO.pow(31));
                String part = s.shiftRight(16).mod(BigInteger.valueOf(32768)).toString(2);
                word.append("0".repeat(15 - part.length())).append(part);
            }
            String cut = word.substring(75 - 62).substring(62 - bits);
            number = cut.isEmpty() ? BigInteger.ZERO : new BigInteger(cut, 2);
            if (number.compareTo(total) < 0) {
                return is(number.longValueExact());
            }
        }
        return is(number.mod(total).longValueExact());
    }

    long mirror(int n, int which) {
        if (n < 0 || which < 0 || which > 1) {
            return fail(2);
        }
        boolean good = kind == 1;
        for (int[] s : steps) {
            boolean like = false;
            for (int[] t : steps) {
                like |= t[0] == s[0] && t[1] == -s[1];
            }
            good &= like && Math.abs(s[1]) == 1;
        }
        if (!good) {
            return fail(5);
        }
        if (!endsOpen() || !barred.isEmpty()) {
            return fail(7);
        }
        if ((long) n + a[1] > 28 || 3L * n + Math.abs(a[0]) > 30) {
            return fail(10);
        }
        kind = 0;
        int y = which == 0 ? b[1] : -2 - b[1];
        long found = reached(a[0], a[1], n).getOrDefault(key(b[0], y), BigInteger.ZERO).longValueExact();
        kind = 1;
        return is(found);
    }

    private long comings(int n, boolean onlyFirst) {
        if (n < 1 || n > 60) {
            return fail(2);
        }
        for (int[] s : steps) {
            if (s[1] < -1) {
                return fail(5);
            }
        }
        if (a[1] <= 0) {
            return fail(7);
        }
        Map<Integer, BigInteger> now = new HashMap<>();
        now.put(a[1], BigInteger.ONE);
        for (int i = 0; i < n; i++) {
            Map<Integer, BigInteger> then = new HashMap<>();
            for (Map.Entry<Integer, BigInteger> e : now.entrySet()) {
                for (int[] s : steps) {
                    if (e.getKey() != 0 || !onlyFirst) {
                        then.merge(e.getKey() + s[1], e.getValue(), BigInteger::add);
                    }
                }
            }
            now = then;
        }
        return told(now.getOrDefault(0, BigInteger.ZERO));
    }

    long first(int n) {
        return comings(n, true);
    }

    long turnings(int n) {
        return comings(n, false);
    }

    boolean family(int many) {
        if (many < 1 || many > 4) {
            return no(2);
        }
        kin = new int[many][4];
        return yes();
    }

    boolean place(int k, boolean end, int x, int y) {
        if (!isSquare(x, y)) {
            return no(2);
        }
        if (k < 0 || k >= kin.length) {
            return no(8);
        }
        kin[k][end ? 2 : 0] = x;
        kin[k][end ? 3 : 1] = y;
        return yes();
    }

    private BigInteger between(int x, int y, int ex, int ey, Map<Integer, BigInteger> known) {
        if (x > ex || y > ey || barred.containsKey(key(x, y))) {
            return BigInteger.ZERO;
        }
        if (x == ex && y == ey) {
            return BigInteger.ONE;
        }
        if (!known.containsKey(key(x, y))) {
            known.put(key(x, y), between(x + 1, y, ex, ey, known).add(between(x, y + 1, ex, ey, known)));
        }
        return known.get(key(x, y));
    }

    private BigInteger entry(int i, int j) {
        return between(kin[i][0], kin[i][1], kin[j][2], kin[j][3], new HashMap<>());
    }

    private boolean barredAt(int i, int j) {
        return barred.containsKey(key(kin[i][0], kin[i][1])) || barred.containsKey(key(kin[j][2], kin[j][3]));
    }

    long table(int i, int j) {
        if (i < 0 || j < 0 || i >= kin.length || j >= kin.length) {
            return fail(8);
        }
        if (barredAt(i, j)) {
            return fail(7);
        }
        BigInteger found = entry(i, j);
        return found.compareTo(BigInteger.valueOf(20000)) > 0 ? fail(9) : is(found.longValueExact());
    }

    long worth() {
        if (kin.length == 0) {
            return fail(8);
        }
        for (int i = 0; i < kin.length; i++) {
            if (barredAt(i, i)) {
                return fail(7);
            }
        }
        BigInteger[][] m = new BigInteger[kin.length][kin.length];
        boolean great = false;
        for (int i = 0; i < kin.length; i++) {
            for (int j = 0; j < kin.length; j++) {
                m[i][j] = entry(i, j);
                great |= m[i][j].compareTo(BigInteger.valueOf(20000)) > 0;
            }
        }
        return great ? fail(9) : is(determinant(m, 0, 0).longValueExact());
    }

    private static BigInteger determinant(BigInteger[][] m, int row, int used) {
        if (row == m.length) {
            return BigInteger.ONE;
        }
        BigInteger sum = BigInteger.ZERO;
        boolean minus = false;
        for (int c = 0; c < m.length; c++) {
            if ((used >> c & 1) == 0) {
                BigInteger part = m[row][c].multiply(determinant(m, row + 1, used | 1 << c));
                sum = minus ? sum.subtract(part) : sum.add(part);
                minus = !minus;
            }
        }
        return sum;
    }

    long boxes(int rows, int columns, int most) {
        if (Math.min(rows, Math.min(columns, most)) < 0 || Math.max(rows, Math.max(columns, most)) > 6) {
            return fail(2);
        }
        List<int[]> lines = new ArrayList<>();
        lines(lines, new int[columns], 0, most);
        long[] now = new long[lines.size()];
        java.util.Arrays.fill(now, rows == 0 ? 0 : 1);
        for (int r = 1; r < rows; r++) {
            long[] then = new long[now.length];
            for (int i = 0; i < now.length; i++) {
                for (int j = 0; j < now.length; j++) {
                    then[j] += under(lines.get(j), lines.get(i)) ? now[i] : 0;
                }
            }
            now = then;
        }
        long sum = rows == 0 ? 1 : 0;
        for (long v : now) {
            sum += v;
        }
        return is(sum);
    }

    private static void lines(List<int[]> lines, int[] line, int place, int most) {
        if (place == line.length) {
            lines.add(line.clone());
            return;
        }
        for (int v = 0; v <= most; v++) {
            line[place] = v;
            lines(lines, line, place + 1, v);
        }
    }

    private static boolean under(int[] line, int[] above) {
        for (int i = 0; i < line.length; i++) {
            if (line[i] > above[i]) {
                return false;
            }
        }
        return true;
    }

    /** How many words have so many letters left with so many brackets open, by reflection. */
    private static BigInteger ends(int left, int depth) {
        if (depth < 0 || depth > left || (left - depth) % 2 != 0) {
            return BigInteger.ZERO;
        }
        int up = (left - depth) / 2;
        return choose(left, up).subtract(up == 0 ? BigInteger.ZERO : choose(left, up - 1));
    }

    private static BigInteger choose(int n, int k) {
        BigInteger c = BigInteger.ONE;
        for (int i = 1; i <= k; i++) {
            c = c.multiply(BigInteger.valueOf(n - k + i)).divide(BigInteger.valueOf(i));
        }
        return c;
    }

    long brackets(int n, long k) {
        if (n < 0 || n > 30) {
            return fail(2);
        }
        if (k < 0 || BigInteger.valueOf(k).compareTo(ends(2 * n, 0)) >= 0) {
            return fail(8);
        }
        StringBuilder word = new StringBuilder();
        BigInteger left = BigInteger.valueOf(k);
        int depth = 0;
        for (int i = 2 * n - 1; i >= 0; i--) {
            BigInteger opened = ends(i, depth + 1);
            boolean opens = left.compareTo(opened) < 0;
            left = opens ? left : left.subtract(opened);
            depth += opens ? 1 : -1;
            word.append(opens ? '(' : ')');
        }
        out = word.toString();
        return is(2L * n);
    }

    long order(int s, int many) {
        int fault = (int) rowFault(s, many, 60, true);
        if (fault != 0) {
            return fail(fault);
        }
        BigInteger found = BigInteger.ZERO;
        int depth = 0;
        for (int i = 0; i < many; i++) {
            if (sheets[s][i] != 0 && sheets[s][i] != 1) {
                return fail(8);
            }
            found = sheets[s][i] == 1 ? found.add(ends(many - i - 1, depth + 1)) : found;
            depth += sheets[s][i] == 0 ? 1 : -1;
            if (depth < 0) {
                return fail(8);
            }
        }
        return depth == 0 ? is(found.longValueExact()) : fail(8);
    }

    private boolean between() {
        return a[1] >= 0 && a[1] <= top && b[1] >= 0 && b[1] <= top;
    }

    private long[] levels(int many) {
        long[] found = new long[many];
        long[] now = new long[top + 1];
        now[a[1]] = 1;
        for (int n = 0; n < many; n++) {
            found[n] = now[b[1]];
            long[] then = new long[top + 1];
            for (int h = 0; h <= top; h++) {
                for (int[] s : steps) {
                    if (h + s[1] >= 0 && h + s[1] <= top) {
                        then[h + s[1]] = (then[h + s[1]] + now[h]) % PRIME;
                    }
                }
            }
            now = then;
        }
        return found;
    }

    long far(long n) {
        if (n < 0) {
            return fail(2);
        }
        if (!between()) {
            return fail(7);
        }
        long[] row = new long[top + 1];
        row[a[1]] = 1;
        long[][] power = new long[top + 1][top + 1];
        for (int h = 0; h <= top; h++) {
            for (int[] s : steps) {
                if (h + s[1] >= 0 && h + s[1] <= top) {
                    power[h][h + s[1]]++;
                }
            }
        }
        for (long left = n; left > 0; left >>= 1) {
            row = left % 2 == 1 ? times(new long[][] {row}, power)[0] : row;
            power = times(power, power);
        }
        return is(row[b[1]]);
    }

    private static long[][] times(long[][] one, long[][] other) {
        long[][] product = new long[one.length][other.length];
        for (int i = 0; i < one.length; i++) {
            for (int j = 0; j < other.length; j++) {
                for (int k = 0; k < other.length; k++) {
                    product[i][j] = (product[i][j] + one[i][k] * other[k][j]) % PRIME;
                }
            }
        }
        return product;
    }

    /** The least d for which equations for c 1 to c d have an answer, by trying each. */
    long rule() {
        if (!between()) {
            return fail(7);
        }
        long[] levels = levels(3 * 32);
        for (int d = 0; d <= 31; d++) {
            long[] answer = solved(levels, d);
            if (answer != null) {
                parts = answer;
                return is(d);
            }
        }
        throw new IllegalStateException("no rule");
    }

    private static long[] solved(long[] levels, int d) {
        int rows = 2 * 32;
        long[][] m = new long[rows][d + 1];
        for (int r = 0; r < rows; r++) {
            for (int c = 0; c < d; c++) {
                m[r][c] = levels[d + r - 1 - c];
            }
            m[r][d] = levels[d + r];
        }
        for (int c = 0; c < d; c++) {
            int pivot = c;
            while (pivot < rows && m[pivot][c] == 0) {
                pivot++;
            }
            if (pivot == rows) {
                return null;
            }
            long[] row = m[pivot];
            m[pivot] = m[c];
            m[c] = row;
            long inverse = BigInteger.valueOf(row[c]).modInverse(BigInteger.valueOf(PRIME)).longValueExact();
            for (int i = c; i <= d; i++) {
                row[i] = row[i] * inverse % PRIME;
            }
            for (int r = 0; r < rows; r++) {
                long share = m[r][c];
                for (int i = c; i <= d && r != c && share != 0; i++) {
                    m[r][i] = Math.floorMod(m[r][i] - share * row[i], PRIME);
                }
            }
        }
        long[] answer = new long[d];
        for (int r = 0; r < rows; r++) {
            if (r < d) {
                answer[r] = m[r][d];
            } else if (m[r][d] != 0) {
                return null;
            }
        }
        return answer;
    }

    long part(int k) {
        return k >= 1 && k <= parts.length ? is(parts[k - 1]) : fail(8);
    }
}
