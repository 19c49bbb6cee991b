import java.util.NoSuchElementException;
import java.util.Random;

/**
 * Runs of calls whose arguments look random, told alike to WalkBench and to PlainBench: after each call the answer,
 * STATUS and OUT must be the same, and nothing but NoSuchElementException of out may be thrown.
 */
public final class RunsTest {
    private static final int RUNS = 1200;
    // an object is used for 512 calls at most; one turn makes no more than 200 of them
    private static final int CALLS_MOST = 512;
    private static final int CALLS_OF_A_TURN = 200;
    private static final int[] ODD = {-1, -2, Integer.MIN_VALUE, Integer.MAX_VALUE, 0, 1, 5, 9, 31, 61, 64, 65, 100, 1 << 30};

    private final Random random;
    private final WalkBench x = new WalkBench();
    private final PlainBench plain = new PlainBench();
    private String call;
    private long got;
    private long due;
    private int calls;
    private String outBefore = "";

    private RunsTest(int seed) {
        random = new Random(seed);
    }

    public static void main(String[] args) {
        int runs = args.length > 0 ? Integer.parseInt(args[0]) : RUNS;
        int first = args.length > 1 ? Integer.parseInt(args[1]) : 0;
        int wrong = 0;
        long all = 0;
        for (int seed = first; seed < first + runs; seed++) {
            RunsTest test = new RunsTest(seed);
            wrong += test.run(seed) ? 0 : 1;
            all += test.calls;
        }
        System.out.println(runs + " runs of " + all + " calls together, " + wrong + " not as due");
        if (wrong > 0) {
            System.exit(1);
        }
    }

    private boolean run(int seed) {
        setUp();
        while (calls + CALLS_OF_A_TURN <= CALLS_MOST) {
            try {
                one();
            } catch (RuntimeException e) {
                System.out.println("run " + seed + ", call " + calls + ": " + call + " threw " + e);
                return false;
            }
            calls++;
            if (got != due || x.status() != plain.status() || !sameOut()) {
                System.out.println("run " + seed + ", call " + calls + ": " + call + " answered " + got + " with STATUS "
                    + x.status() + ", due is " + due + " with " + plain.status());
                return false;
            }
        }
        return true;
    }

    /** Looks at OUT where it is another than it was, and else now and then. */
    private boolean sameOut() {
        String shown = plain.out();
        if (shown.equals(outBefore) && random.nextInt(4 + shown.length()) > 0) {
            return true;
        }
        outBefore = shown;
        calls += shown.length() + 1;
        for (int k = 0; k < shown.length(); k++) {
            if (x.out(k) != shown.charAt(k)) {
                return false;
            }
        }
        try {
            x.out(shown.length());
            return false;
        } catch (NoSuchElementException e) {
            return true;
        }
    }

    private void note(String name, long first, long second) {
        calls++;
        got = first;
        due = second;
        call = name;
    }

    private void note(String name, boolean first, boolean second) {
        note(name, first ? 1 : 0, second ? 1 : 0);
    }

    /** A number of a range, or now and then one that is out of all ranges or at an edge. */
    private int pick(int low, int high) {
        int kind = random.nextInt(40);
        if (kind == 0) {
            return ODD[random.nextInt(ODD.length)];
        }
        if (kind == 1) {
            return random.nextBoolean() ? low - 1 : high + 1;
        }
        if (kind < 5) {
            return random.nextBoolean() ? low : high;
        }
        return low + random.nextInt(high - low + 1);
    }

    private int near() {
        int kind = random.nextInt(12);
        return kind == 0 ? pick(-30, 30) : kind < 8 ? pick(0, 5) : pick(-3, 3);
    }

    private int length() {
        return random.nextInt(12) == 0 ? pick(0, 60) : pick(0, 8);
    }

    private void setUp() {
        if (random.nextInt(4) > 0) {
            tellSteps();
        }
        if (random.nextInt(3) > 0) {
            tellKind();
        }
        if (random.nextInt(3) > 0) {
            int many = 1 + random.nextInt(4);
            note("family(" + many + ")", x.family(many), plain.family(many));
        }
    }

    private void fill(int sheet, int... numbers) {
        calls += 1 + numbers.length;
        x.sheet(sheet, 2, numbers.length);
        plain.sheet(sheet, 2, numbers.length);
        for (int i = 0; i < numbers.length; i++) {
            x.write(sheet, i, numbers[i]);
            plain.write(sheet, i, numbers[i]);
        }
    }

    private void tellSteps() {
        int many = 1 + random.nextInt(8);
        int[] numbers = new int[2 * many];
        int style = random.nextInt(4);
        for (int k = 0; k < many; k++) {
            numbers[2 * k] = style == 0 ? random.nextInt(7) - 3 : random.nextInt(3) - 1;
            numbers[2 * k + 1] = style == 0 ? random.nextInt(7) - 3 : random.nextInt(3) - 1;
            if (style == 2) {
                numbers[2 * k] = random.nextInt(7) - 3;
                numbers[2 * k + 1] = random.nextInt(5) - 1;
            }
            if (style == 3) {
                numbers[2 * k] = (k / 2) - 1;
                numbers[2 * k + 1] = k % 2 == 0 ? 1 : -1;
            }
        }
        fill(3, numbers);
        note("steps(3, " + many + ")", x.steps(3, many), plain.steps(3, many));
    }

    private void tellKind() {
        int kind = random.nextInt(5);
        kind = random.nextInt(3) == 0 ? 1 : kind;
        int size = kind == 2 || kind == 4 ? pick(kind / 4, random.nextBoolean() ? 6 : 30) : 0;
        note("kind(" + kind + ", " + size + ")", x.kind(kind, size), plain.kind(kind, size));
    }

    private void one() {
        int op = random.nextInt(60);
        if (op < 14) {
            sheets(op);
        } else if (op < 28) {
            plane(op);
        } else if (op < 46) {
            counts(op);
        } else {
            others(op);
        }
    }

    private void sheets(int op) {
        int s = pick(0, 3);
        int i = pick(0, 10);
        int j = pick(0, 10);
        int many = pick(0, 10);
        call = "a call of SHEETS, " + op + " of " + s + ", " + i + ", " + j + ", " + many;
        switch (op) {
            case 0, 1:
                int sort = pick(0, 2);
                int length = random.nextInt(3) == 0 ? pick(0, 64) : pick(4, 16);
                note("sheet(" + s + ", " + sort + ", " + length + ")", x.sheet(s, sort, length), plain.sheet(s, sort, length));
                break;
            case 2, 3, 4, 5, 6, 7, 8:
                int v = random.nextInt(8) == 0 ? random.nextInt() : pick(-3, 3);
                note("write(" + s + ", " + i + ", " + v + ")", x.write(s, i, v), plain.write(s, i, v));
                break;
            case 9, 10:
                note("read(" + s + ", " + i + ")", x.read(s, i), plain.read(s, i));
                break;
            default:
                int t = pick(0, 3);
                note("pour(" + s + ", " + i + ", " + t + ", " + j + ", " + many + ")",
                    x.pour(s, i, t, j, many), plain.pour(s, i, t, j, many));
                break;
        }
    }

    private void plane(int op) {
        int k = pick(0, 7);
        int px = near();
        int py = near();
        int s = pick(0, 3);
        int many = pick(0, 6);
        call = "a call of the plane, " + op + " of " + k + ", " + px + ", " + py + ", " + s + ", " + many;
        switch (op) {
            case 14:
                note("steps(" + s + ", " + many + ")", x.steps(s, many), plain.steps(s, many));
                break;
            case 15:
                tellSteps();
                break;
            case 16, 17:
                note("step(" + k + ", " + many + ")", x.step(k, many % 4), plain.step(k, many % 4));
                break;
            case 18, 19:
                int w = pick(0, 9);
                note("told(" + k + ", " + w + ")", x.told(k, w), plain.told(k, w));
                break;
            case 20:
                if (random.nextBoolean()) {
                    tellKind();
                } else {
                    int kind = pick(0, 4);
                    note("kind(" + kind + ", " + many + ")", x.kind(kind, many), plain.kind(kind, many));
                }
                break;
            case 21, 22:
                boolean on = random.nextInt(5) == 0;
                note("bar(" + px + ", " + py + ", " + on + ")", x.bar(px, py, on), plain.bar(px, py, on));
                break;
            case 23:
                note("wall(" + s + ", " + many + ")", x.wall(s, many), plain.wall(s, many));
                break;
            case 24, 25:
                note("from(" + px + ", " + py + ")", x.from(px, py), plain.from(px, py));
                break;
            case 26:
                note("to(" + px + ", " + py + ")", x.to(px, py), plain.to(px, py));
                break;
            default:
                note("open(" + px + ", " + py + ")", x.open(px, py), plain.open(px, py));
                break;
        }
    }

    private void counts(int op) {
        int n = length();
        int w = pick(0, 3);
        int some = pick(0, 4) == 0 ? pick(0, 14) : pick(0, 5);
        int k = random.nextInt(5) == 0 ? pick(0, 120) : pick(0, 12);
        int s = pick(0, 3);
        boolean greatest = random.nextBoolean();
        call = "a call of counts, " + op + " of " + n + ", " + w + ", " + some + ", " + k + ", " + s;
        switch (op) {
            case 28, 29:
                note("count(" + n + ")", x.count(n), plain.count(n));
                break;
            case 30:
                note("all(" + n + ")", x.all(n), plain.all(n));
                break;
            case 31, 32:
                note("least()", x.least(), plain.least());
                break;
            case 33, 34, 35:
                note("sum(" + w + ", " + some + ", " + k + ")", x.sum(w, some, k), plain.sum(w, some, k));
                break;
            case 36, 37:
                note("best(" + w + ", " + some + ", " + greatest + ")", x.best(w, some, greatest), plain.best(w, some, greatest));
                break;
            case 38, 39:
                walkAndBack(n);
                break;
            case 40:
                note("number(" + s + ", " + some + ")", x.number(s, some), plain.number(s, some));
                break;
            case 41, 42:
                int seed = random.nextInt() >>> (random.nextInt(8) == 0 ? 0 : 1);
                note("draw(" + n + ", " + seed + ")", x.draw(n, seed), plain.draw(n, seed));
                break;
            case 43:
                int which = pick(0, 1);
                int least = Math.min(n, random.nextInt(14));
                note("mirror(" + least + ", " + which + ")", x.mirror(least, which), plain.mirror(least, which));
                break;
            case 44:
                note("first(" + n + ")", x.first(n), plain.first(n));
                break;
            default:
                note("turnings(" + n + ")", x.turnings(n), plain.turnings(n));
                break;
        }
    }

    private void walkAndBack(int n) {
        long total = x.count(n);
        calls++;
        long k = total > 0 && random.nextInt(8) > 0 ? Math.floorMod(random.nextLong(), total) : random.nextInt(20) - 2;
        k = random.nextInt(30) == 0 ? random.nextLong() : k;
        note("walk(" + n + ", " + k + ")", x.walk(n, k), plain.walk(n, k));
        calls++;
        if (got == due && x.status() == 0 && random.nextBoolean()) {
            calls += n;
            int[] numbers = new int[n];
            for (int i = 0; i < n; i++) {
                numbers[i] = x.out(i) - '0';
            }
            fill(2, numbers);
            note("number(2, " + n + ")", x.number(2, n), plain.number(2, n));
        }
    }

    private void others(int op) {
        int k = pick(0, 3);
        int j = pick(0, 3);
        int px = near();
        int py = near();
        boolean end = random.nextBoolean();
        call = "another call, " + op + " of " + k + ", " + j + ", " + px + ", " + py;
        switch (op) {
            case 46:
                note("family(" + k + ")", x.family(k), plain.family(k));
                break;
            case 47, 48, 49:
                int far = end && px < 20 ? px + random.nextInt(8) : px;
                note("place(" + k + ", " + end + ", " + far + ", " + py + ")", x.place(k, end, far, py), plain.place(k, end, far, py));
                break;
            case 50, 51:
                note("table(" + k + ", " + j + ")", x.table(k, j), plain.table(k, j));
                break;
            case 52:
                note("worth()", x.worth(), plain.worth());
                break;
            case 53:
                int a = pick(0, random.nextInt(10) == 0 ? 6 : 4);
                int b = pick(0, random.nextInt(10) == 0 ? 6 : 4);
                int c = pick(0, random.nextInt(10) == 0 ? 6 : 4);
                note("boxes(" + a + ", " + b + ", " + c + ")", x.boxes(a, b, c), plain.boxes(a, b, c));
                break;
            case 54, 55:
                bracketsAndBack();
                break;
            case 56:
                int s = pick(0, 3);
                int many = pick(0, 10);
                note("order(" + s + ", " + many + ")", x.order(s, many), plain.order(s, many));
                break;
            case 57:
                long n = random.nextInt(3) == 0 ? random.nextLong() : pick(0, 100);
                note("far(" + n + ")", x.far(n), plain.far(n));
                break;
            case 58:
                note("rule()", x.rule(), plain.rule());
                break;
            default:
                int part = pick(0, 8);
                note("part(" + part + ")", x.part(part), plain.part(part));
                break;
        }
    }

    private void bracketsAndBack() {
        int n = pick(0, random.nextBoolean() ? 5 : 30);
        long k = random.nextInt(4) == 0 ? random.nextInt(50) - 2 : random.nextLong() >>> (64 - 52);
        k = random.nextInt(3) == 0 ? k & 31 : k;
        note("brackets(" + n + ", " + k + ")", x.brackets(n, k), plain.brackets(n, k));
        calls++;
        if (got == due && x.status() == 0 && random.nextBoolean()) {
            calls += 2 * n;
            int[] numbers = new int[2 * n];
            for (int i = 0; i < numbers.length; i++) {
                numbers[i] = x.out(i) == '(' ? 0 : 1;
            }
            fill(2, numbers);
            note("order(2, " + 2 * n + ")", x.order(2, 2 * n), plain.order(2, 2 * n));
        }
    }
}
