import java.math.BigInteger;

/** Promises 16 to 26: walks counted, weighed, numbered and drawn, mirrors and first comings. */
public final class CountTest {
    private static final long GREAT = 1L << 62;

    private CountTest() {
    }

    public static void main(String[] args) {
        promise16Count();
        promise16CountKinds();
        promise16CountRefused();
        promise17All();
        promise18Least();
        promise19Sum();
        promise19SumOfManySquares();
        promise19SumRefused();
        promise20Best();
        promise20BestRefused();
        promise21And22WalkNumber();
        promise21WalkRefused();
        promise22NumberRefused();
        promise23Draw();
        promise23DrawRefused();
        promise24Mirror();
        promise24MirrorFar();
        promise24MirrorRefused();
        promise25And26FirstTurnings();
        promise25And26Refused();
        Check.end();
    }

    private static long choose(int n, int k) {
        BigInteger c = BigInteger.ONE;
        for (int i = 1; i <= k; i++) {
            c = c.multiply(BigInteger.valueOf(n - k + i)).divide(BigInteger.valueOf(i));
        }
        return c.longValueExact();
    }

    private static long catalan(int m) {
        return choose(2 * m, m) / (m + 1);
    }

    private static void promise16Count() {
        WalkBench x = new WalkBench();
        for (int m = 0; m <= 16; m++) {
            long c = choose(2 * m, m);
            Check.fine(x, "count(" + 2 * m + ")", x.count(2 * m), c * c);
            Check.fine(x, "count(" + (2 * m + 1) + ")", x.count(2 * m + 1), 0);
        }
        Check.refused(x, "count(34), GREAT", x.count(34), 9);
        Check.fine(x, "count(59), none", x.count(59), 0);
        Check.fine(x, "count(2) after GREAT ones", x.count(2), 4);
        Check.holds("from", x.from(-30, -30));
        Check.holds("to", x.to(-30, -30));
        Check.fine(x, "count(4) in a corner of the plane", x.count(4), 10);
        Check.holds("to", x.to(30, -30));
        Check.fine(x, "count(60) along the edge", x.count(60), 1);
    }

    private static void promise16CountKinds() {
        WalkBench x = new WalkBench();
        for (int m = 0; m <= 14; m++) {
            Check.holds("kind(1, 0)", x.kind(1, 0));
            Check.fine(x, "count in a HALF", x.count(2 * m), catalan(m) * choose(2 * m + 1, m));
            Check.holds("kind(3, 0)", x.kind(3, 0));
            Check.fine(x, "count in a CORNER", x.count(2 * m), catalan(m) * catalan(m + 1));
            Check.holds("kind(2, 0)", x.kind(2, 0));
            Check.fine(x, "count on a line", x.count(2 * m), choose(2 * m, m));
        }
        Check.holds("kind(4, 30)", x.kind(4, 30));
        Check.steps(x, 1, 0);
        Check.fine(x, "count(30) round the RING", x.count(30), 1);
        Check.fine(x, "count(60) twice round", x.count(60), 1);
        Check.fine(x, "count(45)", x.count(45), 0);
        Check.holds("kind(4, 7)", x.kind(4, 7));
        Check.steps(x, -3, 0);
        Check.fine(x, "count(7) backward round a RING of 7", x.count(7), 1);
        Check.holds("kind(4, 5)", x.kind(4, 5));
        Check.steps(x, 1, 0, 3, 1);
        int[][] round = {{1, 0, 1, 1}, {4, 0, 1, 0}, {3, 1, 1, 1}, {2, 1, 1, 0}, {4, 1, 2, 2}, {1, 2, 2, 1}, {4, 2, 2, 0},
            {0, 3, 4, 4}, {0, 2, 4, 0}, {2, 1, 6, 0}, {3, 2, 7, 0}, {1, 2, 7, 21}};
        for (int[] row : round) {
            Check.holds("to", x.to(row[0], row[1]));
            Check.fine(x, "count round a RING to " + row[0] + ", " + row[1], x.count(row[2]), row[3]);
        }
        Check.holds("to", x.to(0, 0));
        // on a RING of 1 all these lead where they came from: powers of their number
        Check.holds("kind(4, 1)", x.kind(4, 1));
        Check.steps(x, 1, 0, -1, 0, 2, 0, -2, 0);
        Check.fine(x, "count(30), 4 to the power 30", x.count(30), 1L << 60);
        Check.refused(x, "count(31), 2 to the power 62", x.count(31), 9);
        Check.steps(x, 1, 0, -1, 0);
        Check.fine(x, "count(60), 2 to the power 60", x.count(60), 1L << 60);
        Check.steps(x, 1, 0, -1, 0, 2, 0);
        Check.fine(x, "count(39), 3 to the power 39", x.count(39), 4052555153018976267L);
        Check.refused(x, "count(40)", x.count(40), 9);
    }

    private static void promise16CountRefused() {
        WalkBench x = new WalkBench();
        Check.holds("bar", x.bar(3, 3, true));
        Check.holds("to", x.to(3, 3));
        Check.refused(x, "count(-1), the number ahead of B", x.count(-1), 2);
        Check.refused(x, "count(61)", x.count(61), 2);
        Check.refused(x, "count(MAX)", x.count(Integer.MAX_VALUE), 2);
        Check.refused(x, "count(2), B is BARRED", x.count(2), 7);
        Check.holds("from", x.from(3, 3));
        Check.holds("to", x.to(0, 0));
        Check.refused(x, "count(2), A is BARRED", x.count(2), 7);
        Check.holds("from", x.from(0, -1));
        Check.holds("kind", x.kind(1, 0));
        Check.refused(x, "count(2), A is not in the KIND", x.count(2), 7);
        Check.holds("from", x.from(0, 0));
        Check.fine(x, "count(2)", x.count(2), 3);
    }

    private static void promise17All() {
        WalkBench x = new WalkBench();
        Check.fine(x, "all(0)", x.all(0), 1);
        Check.fine(x, "all(10)", x.all(10), 1 << 20);
        Check.fine(x, "all(30)", x.all(30), 1L << 60);
        // the four that leave the plane are wanting from 2 to the power 62
        Check.fine(x, "all(31)", x.all(31), GREAT - 4);
        Check.refused(x, "all(32)", x.all(32), 9);
        Check.refused(x, "all(60)", x.all(60), 9);
        Check.refused(x, "all(-1)", x.all(-1), 2);
        Check.refused(x, "all(61)", x.all(61), 2);
        Check.holds("bar", x.bar(1, 0, true));
        Check.fine(x, "all(1)", x.all(1), 3);
        Check.holds("to", x.to(1, 0));
        Check.fine(x, "all(2), B is not looked at", x.all(2), 12);
        Check.holds("from", x.from(1, 0));
        Check.refused(x, "all(61), the number ahead of A", x.all(61), 2);
        Check.refused(x, "all(1), A is BARRED", x.all(1), 7);
        Check.holds("kind", x.kind(4, 1));
        Check.holds("from", x.from(0, 0));
        Check.steps(x, 1, 0, -1, 0, 2, 0, -2, 0);
        Check.refused(x, "all(31), 2 to the power 62", x.all(31), 9);
        Check.fine(x, "all(30)", x.all(30), 1L << 60);
        allOneWay();
    }

    private static void allOneWay() {
        WalkBench x = new WalkBench();
        Check.steps(x, 1, 0, 1, 1);
        Check.holds("from", x.from(28, 0));
        Check.fine(x, "all(2) toward the edge", x.all(2), 4);
        Check.fine(x, "all(3) over the edge", x.all(3), 0);
        Check.holds("from", x.from(-28, 0));
        Check.fine(x, "all(3) away from the edge", x.all(3), 8);
        Check.holds("bar", x.bar(-26, 1, true));
        Check.fine(x, "all(3) round a SQUARE", x.all(3), 4);
        Check.holds("from", x.from(-30, -30));
        Check.fine(x, "all(0) in a corner", x.all(0), 1);
        Check.fine(x, "all(40) from a corner", x.all(40), 1L << 40);
        Check.holds("from", x.from(30, 30));
        Check.fine(x, "all(0) in another", x.all(0), 1);
        Check.fine(x, "all(1) in another", x.all(1), 0);
    }

    private static void promise18Least() {
        WalkBench x = new WalkBench();
        Check.fine(x, "least()", x.least(), 0);
        Check.holds("to", x.to(30, 30));
        Check.fine(x, "least()", x.least(), 60);
        Check.holds("from", x.from(0, -1));
        Check.refused(x, "least(), 61 steps away", x.least(), 8);
        Check.steps(x, 3, 3, -1, 0, 0, -1);
        Check.fine(x, "least(), by long steps", x.least(), 11 + 2 + 3);
        Check.steps(x, 2, 0);
        Check.holds("from", x.from(0, 0));
        Check.holds("to", x.to(5, 0));
        Check.refused(x, "least(), never", x.least(), 8);
        Check.holds("to", x.to(-2, 0));
        Check.refused(x, "least(), the other way", x.least(), 8);
        Check.holds("bar", x.bar(-2, 0, true));
        Check.refused(x, "least(), B is BARRED", x.least(), 7);
        Check.holds("bar", x.bar(-2, 0, false));
        Check.holds("bar", x.bar(0, 0, true));
        Check.refused(x, "least(), A is BARRED", x.least(), 7);
        x = new WalkBench();
        for (int y = -29; y <= 30; y++) {
            Check.holds("bar", x.bar(5, y, true));
        }
        Check.holds("from", x.from(0, -20));
        Check.holds("to", x.to(10, -20));
        Check.fine(x, "least(), round a wall", x.least(), 30);
        Check.holds("bar", x.bar(5, -30, true));
        Check.refused(x, "least(), through a wall", x.least(), 8);
    }

    private static void promise19Sum() {
        WalkBench x = new WalkBench();
        // TOUCHES: level walks touch twice, upright ones once
        Check.fine(x, "sum(0, 2, 2)", x.sum(0, 2, 2), 2);
        Check.fine(x, "sum(0, 2, 1)", x.sum(0, 2, 1), 2);
        Check.fine(x, "sum(0, 2, 0)", x.sum(0, 2, 0), 0);
        Check.fine(x, "sum(0, 0, 0)", x.sum(0, 0, 0), 1);
        Check.fine(x, "sum(1, 0, 0)", x.sum(1, 0, 0), 1);
        Check.fine(x, "sum(1, 0, 1)", x.sum(1, 0, 1), 0);
        Check.fine(x, "sum(0, 1, 0), no WALK", x.sum(0, 1, 0), 0);
        // TURNS to (2, 2): two walks with one turn, two with two, two with three
        Check.holds("to", x.to(2, 2));
        Check.fine(x, "sum(1, 4, 0)", x.sum(1, 4, 0), 0);
        Check.fine(x, "sum(1, 4, 1)", x.sum(1, 4, 1), 2);
        Check.fine(x, "sum(1, 4, 2)", x.sum(1, 4, 2), 2);
        Check.fine(x, "sum(1, 4, 3)", x.sum(1, 4, 3), 2);
        Check.holds("to", x.to(14, 0));
        Check.fine(x, "sum(1, 14, 0)", x.sum(1, 14, 0), 1);
        Check.fine(x, "sum(0, 14, 14)", x.sum(0, 14, 14), 1);
        // AREA to (2, 2) by the boxes below the walk
        for (int kind = 1; kind <= 3; kind++) {
            Check.holds("kind", x.kind(kind, kind == 2 ? 30 : 0));
            Check.holds("to", x.to(2, 2));
            for (int k = 0; k < 9; k++) {
                Check.fine(x, "sum(2, 4, " + k + ")", x.sum(2, 4, k), dueArea(k));
            }
        }
        told();
    }

    /** Walks of 4 from (0, 0) to (2, 2) have y 2 at the end: RRUU 3, RURU 4, RUUR 5, URRU 5, URUR 6, UURR 7. */
    private static long dueArea(int k) {
        int[] areas = {0 + 0 + 1 + 2, 0 + 1 + 1 + 2, 0 + 1 + 2 + 2, 1 + 1 + 1 + 2, 1 + 1 + 2 + 2, 1 + 2 + 2 + 2};
        int many = 0;
        for (int area : areas) {
            if (area == k) {
                many++;
            }
        }
        return many;
    }

    private static void told() {
        WalkBench x = new WalkBench();
        Check.holds("told", x.told(0, 9));
        Check.holds("told", x.told(1, 0));
        Check.holds("to", x.to(2, 2));
        Check.fine(x, "sum(3, 4, 18)", x.sum(3, 4, 18), 6);
        Check.fine(x, "sum(3, 4, 4)", x.sum(3, 4, 4), 0);
        Check.holds("to", x.to(14, 0));
        Check.fine(x, "sum(3, 14, 120), the weight is 126", x.sum(3, 14, 120), 0);
        Check.holds("told", x.told(0, 8));
        Check.fine(x, "sum(3, 14, 112)", x.sum(3, 14, 112), 1);
        Check.steps(x, 1, 0, -1, 0);
        Check.holds("kind", x.kind(4, 1));
        Check.holds("to", x.to(0, 0));
        Check.holds("told", x.told(0, 9));
        Check.holds("told", x.told(1, 8));
        for (int k = 100; k <= 120; k++) {
            Check.fine(x, "sum(3, 14, " + k + ")", x.sum(3, 14, k), k < 112 ? 0 : choose(14, k - 112));
        }
        for (int k = 0; k <= 14; k++) {
            Check.fine(x, "sum(1, 14, " + k + ")", x.sum(1, 14, k), k == 14 ? 0 : 2 * choose(13, k));
        }
        Check.fine(x, "sum(1, 14, 120)", x.sum(1, 14, 120), 0);
        Check.fine(x, "sum(0, 14, 120)", x.sum(0, 14, 120), 0);
        Check.fine(x, "sum(0, 14, 14)", x.sum(0, 14, 14), 1 << 14);
        // eight steps that are eight to the power 14 walks in all, on a RING of 1 and y free
        Check.steps(x, 1, 0, -1, 0, 2, 0, -2, 0, 3, 0, -3, 0, 0, 1, 0, -1);
        long total = 0;
        for (int k = 0; k <= 14; k++) {
            total += x.sum(0, 14, k);
        }
        Check.same("sums of TOUCHES together", total, x.count(14));
        total = 0;
        for (int k = 0; k <= 14; k++) {
            total += x.sum(1, 14, k);
        }
        Check.same("sums of TURNS together", total, x.count(14));
    }

    /** Long steps come to many squares; all weights together are all walks, and each is as PlainBench counts it. */
    private static void promise19SumOfManySquares() {
        int[] steps = {3, 3, -3, -2, 1, -3, -2, 3, 3, -1, -3, 1, 1, 0, 0, -1};
        for (int weight = 0; weight <= 3; weight++) {
            WalkBench x = new WalkBench();
            Check.steps(x, steps);
            Check.holds("kind", x.kind(weight == 2 ? 1 : 0, 0));
            Check.holds("from", x.from(1, 4));
            Check.holds("to", x.to(0, 3));
            long total = 0;
            for (int k = 0; k <= 120; k++) {
                long some = x.sum(weight, 14, k);
                Check.holds("sum is not below 0", some >= 0);
                total += some;
            }
            if (weight != 2) {
                Check.same("sums of weight " + weight + " together", total, x.count(14));
            }
        }
        heavySums(steps);
        sumsBeyondAll();
    }

    /** High above, every WALK weighs more than may be asked, and none must be seen at a lesser weight. */
    private static void sumsBeyondAll() {
        for (int n = 6; n <= 14; n += 2) {
            WalkBench x = new WalkBench();
            Check.holds("kind", x.kind(1, 0));
            Check.holds("from", x.from(0, 30));
            Check.holds("to", x.to(0, 30));
            for (int k = 0; k <= 120; k++) {
                Check.fine(x, "sum(2, " + n + ", " + k + ")", x.sum(2, n, k), 0);
            }
            Check.holds("there are WALKS", x.count(n) > 0);
        }
    }

    private static void heavySums(int[] steps) {
        PlainBench plain = new PlainBench();
        plain.sheet(0, 2, steps.length);
        for (int i = 0; i < steps.length; i++) {
            plain.write(0, i, steps[i]);
        }
        plain.steps(0, 8);
        for (int k = 0; k < 8; k++) {
            Check.holds("told", plain.told(k, 9 - k % 3));
        }
        int[][] asked = {{2, 5, 6}, {2, 7, 15}, {2, 6, 20}, {3, 7, 0}, {1, 7, 0}, {0, 7, 0}};
        for (int[] row : asked) {
            WalkBench x = new WalkBench();
            Check.steps(x, steps);
            for (int k = 0; k < 8; k++) {
                Check.holds("told", x.told(k, 9 - k % 3));
            }
            int kind = row[0] == 2 ? 1 : 0;
            Check.holds("kind", x.kind(kind, 0) && plain.kind(kind, 0));
            Check.holds("from", x.from(0, row[2]) && plain.from(0, row[2]));
            for (int bx = -1; bx <= 1; bx++) {
                Check.holds("to", x.to(bx, row[2] + 2) && plain.to(bx, row[2] + 2));
                int low = row[0] == 2 ? 97 : row[0] == 3 ? 52 : 0;
                for (int k = low; k < low + 20; k += row[0] == 2 ? 1 : 2) {
                    Check.fine(x, "sum(" + row[0] + ", " + row[1] + ", " + k + ")", x.sum(row[0], row[1], k), plain.sum(row[0], row[1], k));
                }
                Check.same("sum of 120", x.sum(row[0], row[1], 120), plain.sum(row[0], row[1], 120));
                Check.same("best after sum", x.best(row[0], row[1], true), plain.best(row[0], row[1], true));
                Check.same("worst after sum", x.best(row[0], row[1], false), plain.best(row[0], row[1], false));
            }
        }
    }

    private static void promise19SumRefused() {
        WalkBench x = new WalkBench();
        Check.refused(x, "sum(-1, 2, 0)", x.sum(-1, 2, 0), 2);
        Check.refused(x, "sum(4, 2, 0)", x.sum(4, 2, 0), 2);
        Check.refused(x, "sum(0, -1, 0)", x.sum(0, -1, 0), 2);
        Check.refused(x, "sum(0, 15, 0)", x.sum(0, 15, 0), 2);
        Check.refused(x, "sum(0, 2, -1)", x.sum(0, 2, -1), 2);
        Check.refused(x, "sum(0, 2, 121)", x.sum(0, 2, 121), 2);
        Check.refused(x, "sum(2, 2, 121), the number ahead of the KIND", x.sum(2, 2, 121), 2);
        Check.refused(x, "sum(2, 15, 0), the number ahead of the KIND", x.sum(2, 15, 0), 2);
        Check.refused(x, "sum(2, 2, 0) in KIND 0", x.sum(2, 2, 0), 5);
        Check.holds("bar", x.bar(0, 0, true));
        Check.refused(x, "sum(2, 2, 0), the KIND ahead of A", x.sum(2, 2, 0), 5);
        Check.refused(x, "sum(0, 2, 0), A is BARRED", x.sum(0, 2, 0), 7);
        Check.holds("bar", x.bar(0, 0, false));
        Check.holds("kind", x.kind(4, 3));
        Check.refused(x, "sum(2, 2, 0) in KIND 4", x.sum(2, 2, 0), 5);
        Check.fine(x, "sum(0, 2, 120)", x.sum(0, 2, 120), 0);
        Check.holds("to", x.to(3, 0));
        Check.refused(x, "sum(3, 2, 0), B is not in the KIND", x.sum(3, 2, 0), 7);
    }

    private static void promise20Best() {
        WalkBench x = new WalkBench();
        Check.fine(x, "best(0, 0, true)", x.best(0, 0, true), 0);
        Check.fine(x, "best(1, 0, false)", x.best(1, 0, false), 0);
        Check.fine(x, "best(0, 4, true)", x.best(0, 4, true), 4);
        Check.fine(x, "best(0, 4, false)", x.best(0, 4, false), 1);
        Check.fine(x, "best(1, 14, true)", x.best(1, 14, true), 13);
        Check.fine(x, "best(1, 14, false)", x.best(1, 14, false), 1);
        Check.holds("to", x.to(14, 0));
        Check.fine(x, "best(1, 14, true), one WALK", x.best(1, 14, true), 0);
        Check.holds("to", x.to(0, 0));
        Check.holds("kind", x.kind(1, 0));
        Check.fine(x, "best(2, 14, true)", x.best(2, 14, true), 49);
        Check.fine(x, "best(2, 14, false)", x.best(2, 14, false), 0);
        Check.holds("from", x.from(0, 30));
        Check.holds("to", x.to(0, 30));
        Check.fine(x, "best(2, 14, true), above 120", x.best(2, 14, true), 420);
        Check.fine(x, "best(2, 14, false)", x.best(2, 14, false), 420 - 49);
        Check.holds("told", x.told(1, 9));
        Check.holds("told", x.told(3, 0));
        Check.holds("told", x.told(0, 9));
        Check.holds("told", x.told(2, 9));
        Check.fine(x, "best(3, 14, true), above 120", x.best(3, 14, true), 126);
        Check.fine(x, "best(3, 14, false)", x.best(3, 14, false), 63);
        // the last step before matters: to turn often is not the same as to come quickly
        WalkBench y = new WalkBench();
        Check.holds("to", y.to(3, 3));
        Check.fine(y, "best(1, 6, true)", y.best(1, 6, true), 5);
        Check.fine(y, "best(1, 6, false)", y.best(1, 6, false), 1);
        Check.holds("bar", y.bar(3, 0, true));
        Check.fine(y, "best(1, 6, false), one corner BARRED", y.best(1, 6, false), 1);
        Check.holds("bar", y.bar(0, 3, true));
        Check.fine(y, "best(1, 6, false), both corners BARRED", y.best(1, 6, false), 2);
    }

    private static void promise20BestRefused() {
        WalkBench x = new WalkBench();
        Check.refused(x, "best(-1, 2, true)", x.best(-1, 2, true), 2);
        Check.refused(x, "best(4, 2, true)", x.best(4, 2, true), 2);
        Check.refused(x, "best(0, -1, true)", x.best(0, -1, true), 2);
        Check.refused(x, "best(0, 15, true)", x.best(0, 15, true), 2);
        Check.refused(x, "best(2, 15, true), the number ahead of the KIND", x.best(2, 15, true), 2);
        Check.refused(x, "best(0, 1, false), no WALK", x.best(0, 1, false), 8);
        Check.holds("bar", x.bar(0, 0, true));
        Check.refused(x, "best(2, 2, true), the KIND ahead of A", x.best(2, 2, true), 5);
        Check.refused(x, "best(0, 1, true), A ahead of no WALK", x.best(0, 1, true), 7);
        Check.holds("kind", x.kind(4, 2));
        Check.refused(x, "best(2, 2, true) in KIND 4", x.best(2, 2, true), 5);
    }

    private static void promise21And22WalkNumber() {
        for (int n = 0; n <= 6; n++) {
            long total = bench().count(n);
            String before = "";
            WalkBench x = bench();
            for (long k = 0; k < total; k++) {
                // an object is used for 512 calls at most
                x = k % 10 == 0 ? bench() : x;
                Check.fine(x, "walk(" + n + ", " + k + ")", x.walk(n, k), n);
                String shown = Check.shown(x);
                Check.holds("walk " + k + " of " + n + " comes behind the one ahead", before.compareTo(shown) < 0 || k == 0);
                Check.same("how many bytes", shown.length(), n);
                before = shown;
                Check.holds("sheet", x.sheet(0, 0, n));
                for (int i = 0; i < n; i++) {
                    Check.holds("write", x.write(0, i, shown.charAt(i) - '0'));
                }
                Check.fine(x, "number of " + shown, x.number(0, n), k);
            }
            Check.refused(x, "walk(n, count)", x.walk(n, total), 8);
            Check.shows(x, "OUT after a refused walk", before);
        }
        promise21And22Longest();
    }

    private static WalkBench bench() {
        WalkBench x = new WalkBench();
        Check.steps(x, 1, 1, -1, 1, 1, -1, -1, -1, 2, 0, -2, 0);
        Check.holds("bar", x.bar(1, 1, true));
        Check.holds("to", x.to(2, 0));
        return x;
    }

    private static void promise21And22Longest() {
        WalkBench x = new WalkBench();
        Check.holds("walk(2, 0)", x.walk(2, 0) == 2);
        Check.fine(x, "walk(0, 0)", x.walk(0, 0), 0);
        Check.shows(x, "walk(0, 0)", "");
        Check.holds("sheet", x.sheet(0, 0, 0));
        Check.fine(x, "number of no STEPS", x.number(0, 0), 0);
        Check.holds("to", x.to(30, 30));
        Check.fine(x, "walk(60, 0)", x.walk(60, 0), 60);
        Check.shows(x, "walk(60, 0)", "0".repeat(30) + "1".repeat(30));
        long last = choose(60, 30) - 1;
        Check.fine(x, "walk(60, last)", x.walk(60, last), 60);
        Check.shows(x, "walk(60, last)", "1".repeat(30) + "0".repeat(30));
        int[] numbers = new int[64];
        for (int i = 0; i < 30; i++) {
            numbers[i] = 1;
        }
        Check.sheet(x, 2, numbers);
        Check.fine(x, "number(2, 60)", x.number(2, 60), last);
        Check.shows(x, "OUT after number()", "1".repeat(30) + "0".repeat(30));
    }

    private static void promise21WalkRefused() {
        WalkBench x = new WalkBench();
        Check.refused(x, "walk(-1, -1)", x.walk(-1, -1), 2);
        Check.refused(x, "walk(61, 0)", x.walk(61, 0), 2);
        Check.refused(x, "walk(1, 0), there is none", x.walk(1, 0), 8);
        Check.refused(x, "walk(34, 0), GREAT", x.walk(34, 0), 9);
        Check.refused(x, "walk(34, MAX), GREAT", x.walk(34, Long.MAX_VALUE), 9);
        Check.refused(x, "walk(34, -1), below 0 ahead of GREAT", x.walk(34, -1), 8);
        Check.refused(x, "walk(32, MAX)", x.walk(32, Long.MAX_VALUE), 8);
        Check.fine(x, "walk(32, last)", x.walk(32, 361297635242552099L), 32);
        Check.shows(x, "walk(32, last)", "3".repeat(16) + "1".repeat(16));
        Check.holds("bar", x.bar(0, 0, true));
        Check.refused(x, "walk(2, -1), A ahead of the number", x.walk(2, -1), 7);
        Check.refused(x, "walk(61, 0), n ahead of A", x.walk(61, 0), 2);
    }

    private static void promise22NumberRefused() {
        WalkBench x = new WalkBench();
        Check.refused(x, "number(4, 61)", x.number(4, 61), 1);
        Check.refused(x, "number(-1, 0)", x.number(-1, 0), 1);
        Check.refused(x, "number(0, 61), so many ahead of MISSING", x.number(0, 61), 2);
        Check.refused(x, "number(0, -1)", x.number(0, -1), 2);
        Check.refused(x, "number(0, 0)", x.number(0, 0), 3);
        Check.sheet(x, 0, 0, 2, 4, -1);
        Check.holds("bar", x.bar(0, 0, true));
        Check.refused(x, "number(0, 5), the end ahead of A", x.number(0, 5), 4);
        Check.refused(x, "number(0, 3), A ahead of what it is", x.number(0, 3), 7);
        Check.holds("bar", x.bar(0, 0, false));
        Check.fine(x, "number(0, 2)", x.number(0, 2), 0);
        Check.refused(x, "number(0, 1), not at B", x.number(0, 1), 8);
        Check.refused(x, "number(0, 3), no STEP 4", x.number(0, 3), 8);
        Check.refused(x, "number(0, 4), no STEP 4", x.number(0, 4), 8);
        Check.sheet(x, 0, -1, 1);
        Check.refused(x, "number(0, 2), no STEP -1", x.number(0, 2), 8);
        Check.sheet(x, 0, 0, 2);
        Check.holds("bar", x.bar(1, 0, true));
        Check.refused(x, "number(0, 2), over a SQUARE that is BARRED", x.number(0, 2), 8);
        Check.holds("bar", x.bar(1, 0, false));
        int[] turns = new int[34];
        for (int i = 0; i < 34; i++) {
            turns[i] = i % 2 == 0 ? 1 : 3;
        }
        Check.sheet(x, 1, turns);
        Check.refused(x, "number(1, 34), GREAT", x.number(1, 34), 9);
        Check.refused(x, "number(1, 33), none ahead of GREAT", x.number(1, 33), 8);
        Check.holds("write", x.write(1, 33, 1));
        Check.refused(x, "number(1, 34), none ahead of GREAT", x.number(1, 34), 8);
        Check.holds("write", x.write(1, 33, 3));
        Check.holds("number(1, 32) stands", x.number(1, 32) > 0);
    }

    private static long dueDraw(long count, int seed) {
        BigInteger s = BigInteger.valueOf(seed);
        int bits = BigInteger.valueOf(count - 1).bitLength();
        BigInteger number = BigInteger.ZERO;
        for (int i = 0; i < 64; i++) {
            number = BigInteger.ZERO;
            for (int j = 0; j < 5; j++) {
                s = s.multiply(BigInteger.valueOf(1103515245)).add(BigInteger.valueOf(12345)).mod(BigInteger.TWO.pow(31));
                BigInteger chunk = s.divide(BigInteger.valueOf(65536)).mod(BigInteger.valueOf(32768));
                number = number.multiply(BigInteger.valueOf(32768)).add(chunk);
            }
            number = number.mod(BigInteger.TWO.pow(62)).mod(BigInteger.TWO.pow(bits));
            if (number.longValueExact() < count) {
                return number.longValueExact();
            }
        }
        return number.mod(BigInteger.valueOf(count)).longValueExact();
    }

    private static void promise23Draw() {
        int[] lengths = {0, 2, 4, 6, 8, 14, 20, 30, 32};
        for (int n : lengths) {
            WalkBench x = new WalkBench();
            for (int seed = 0; seed < 40; seed++) {
                long got = x.draw(n, seed * 52345677 & Integer.MAX_VALUE);
                Check.fine(x, "draw", got, dueDraw(x.count(n), seed * 52345677 & Integer.MAX_VALUE));
            }
        }
        WalkBench x = new WalkBench();
        Check.fine(x, "draw(2, 0)", x.draw(2, 0), dueDraw(4, 0));
        Check.fine(x, "draw(2, MAX)", x.draw(2, Integer.MAX_VALUE), dueDraw(4, Integer.MAX_VALUE));
        Check.shows(x, "OUT after draw()", "");
        Check.fine(x, "draw(0, 5)", x.draw(0, 5), 0);
        x = new WalkBench();
        Check.holds("kind", x.kind(4, 1));
        Check.steps(x, 1, 0, -1, 0, 2, 0);
        for (int n = 1; n <= 39; n++) {
            Check.fine(x, "draw of 3 to the power " + n, x.draw(n, n), dueDraw(x.count(n), n));
        }
    }

    private static void promise23DrawRefused() {
        WalkBench x = new WalkBench();
        Check.refused(x, "draw(-1, 0)", x.draw(-1, 0), 2);
        Check.refused(x, "draw(61, 0)", x.draw(61, 0), 2);
        Check.refused(x, "draw(2, -1)", x.draw(2, -1), 2);
        Check.refused(x, "draw(2, MIN)", x.draw(2, Integer.MIN_VALUE), 2);
        Check.refused(x, "draw(3, 1), there is none", x.draw(3, 1), 8);
        Check.refused(x, "draw(34, 1), GREAT", x.draw(34, 1), 9);
        Check.holds("bar", x.bar(0, 0, true));
        Check.refused(x, "draw(2, -1), the seed ahead of A", x.draw(2, -1), 2);
        Check.refused(x, "draw(3, 1), A ahead of none", x.draw(3, 1), 7);
    }

    private static void promise24Mirror() {
        WalkBench x = new WalkBench();
        Check.holds("kind", x.kind(1, 0));
        Check.steps(x, 1, 1, 1, -1);
        for (int n = 0; n <= 10; n += 2) {
            Check.holds("to", x.to(n, 0));
            Check.fine(x, "mirror(n, 0)", x.mirror(n, 0), choose(n, n / 2));
            Check.fine(x, "mirror(n, 1)", x.mirror(n, 1), n == 0 ? 0 : choose(n, n / 2 - 1));
            Check.fine(x, "count(n) is their difference", x.count(n), x.mirror(n, 0) - x.mirror(n, 1));
        }
        // steps of several columns, told in any order; eight at the most
        Check.steps(x, -3, -1, 3, 1, 0, -1, -3, 1, 0, 1, 3, -1, 2, 1, 2, -1);
        for (int n = 0; n <= 9; n++) {
            for (int ay = 0; ay <= 4; ay++) {
                Check.holds("from", x.from(-2, ay));
                Check.holds("to", x.to(1, (ay + n) % 2));
                Check.fine(x, "mirror 0 less mirror 1", x.mirror(n, 0) - x.mirror(n, 1), x.count(n));
            }
        }
        Check.holds("from", x.from(0, 1));
        Check.holds("to", x.to(2, 2));
        Check.fine(x, "mirror(1, 0)", x.mirror(1, 0), 1);
        Check.fine(x, "mirror(2, 0)", x.mirror(2, 0), 0);
        Check.fine(x, "mirror(3, 0) by 2 and 0 and 0, 3 and -3 and 2", x.mirror(3, 0), 3 * (3 + 6));
    }

    private static void promise24MirrorFar() {
        WalkBench x = new WalkBench();
        Check.holds("kind", x.kind(1, 0));
        Check.steps(x, 0, 1, 0, -1);
        Check.fine(x, "mirror(10, 0)", x.mirror(10, 0), 252);
        Check.refused(x, "mirror(11, 0)", x.mirror(11, 0), 10);
        Check.refused(x, "mirror(MAX, 0)", x.mirror(Integer.MAX_VALUE, 0), 10);
        Check.holds("from", x.from(0, 18));
        Check.holds("to", x.to(0, 28));
        Check.fine(x, "mirror(10, 0) from y 18", x.mirror(10, 0), 1);
        Check.fine(x, "mirror(10, 1) from y 18", x.mirror(10, 1), 0);
        Check.holds("from", x.from(0, 19));
        Check.refused(x, "mirror(10, 0) from y 19", x.mirror(10, 0), 10);
        Check.fine(x, "mirror(9, 0) from y 19", x.mirror(9, 0), 1);
        Check.holds("from", x.from(-6, 0));
        Check.holds("to", x.to(-6, 30));
        Check.fine(x, "mirror(8, 0) from x -6", x.mirror(8, 0), 0);
        Check.fine(x, "mirror(8, 1) to y -32", x.mirror(8, 1), 0);
        Check.refused(x, "mirror(9, 0) from x -6", x.mirror(9, 0), 10);
        Check.holds("from", x.from(-7, 0));
        Check.refused(x, "mirror(8, 0) from x -7", x.mirror(8, 0), 10);
        Check.holds("from", x.from(7, 0));
        Check.refused(x, "mirror(8, 0) from x 7", x.mirror(8, 0), 10);
        Check.holds("from", x.from(30, 28));
        Check.fine(x, "mirror(0, 0) from (30, 28)", x.mirror(0, 0), 0);
        Check.holds("from", x.from(30, 29));
        Check.refused(x, "mirror(0, 0) from (30, 29)", x.mirror(0, 0), 10);
    }

    private static void promise24MirrorRefused() {
        WalkBench x = new WalkBench();
        Check.refused(x, "mirror(-1, 0), the number ahead of the KIND", x.mirror(-1, 0), 2);
        Check.refused(x, "mirror(0, -1)", x.mirror(0, -1), 2);
        Check.refused(x, "mirror(0, 2)", x.mirror(0, 2), 2);
        Check.refused(x, "mirror(MIN, 1)", x.mirror(Integer.MIN_VALUE, 1), 2);
        Check.steps(x, 1, 1, 1, -1);
        Check.refused(x, "mirror in KIND 0", x.mirror(0, 0), 5);
        Check.holds("kind", x.kind(3, 0));
        Check.refused(x, "mirror in KIND 3", x.mirror(0, 0), 5);
        Check.holds("kind", x.kind(1, 0));
        Check.fine(x, "mirror(0, 0)", x.mirror(0, 0), 1);
        Check.steps(x, 1, 1, 1, -1, 2, 1);
        Check.refused(x, "mirror, a STEP without its like", x.mirror(0, 0), 5);
        Check.steps(x, 1, 1, 1, -1, 1, 0);
        Check.refused(x, "mirror, a STEP of dy 0", x.mirror(0, 0), 5);
        Check.steps(x, 1, 2, 1, -2);
        Check.refused(x, "mirror, a STEP of dy 2", x.mirror(0, 0), 5);
        Check.holds("bar", x.bar(9, -9, true));
        Check.refused(x, "mirror, the STEPS ahead of what is BARRED", x.mirror(0, 0), 5);
        Check.steps(x, 1, 1, 1, -1);
        Check.refused(x, "mirror, a SQUARE below is BARRED", x.mirror(0, 0), 7);
        Check.refused(x, "mirror, BARRED ahead of too far", x.mirror(50, 0), 7);
        Check.holds("bar", x.bar(9, -9, true));
        Check.holds("bar", x.bar(8, 8, true));
        Check.holds("bar", x.bar(9, -9, false));
        Check.refused(x, "mirror, one SQUARE is BARRED still", x.mirror(0, 0), 7);
        Check.holds("bar", x.bar(8, 8, false));
        Check.holds("bar", x.bar(8, 8, false));
        Check.fine(x, "mirror(0, 0)", x.mirror(0, 0), 1);
        Check.holds("to", x.to(0, -1));
        Check.refused(x, "mirror, B is not OPEN", x.mirror(0, 0), 7);
        Check.holds("to", x.to(0, 0));
        Check.holds("from", x.from(0, -1));
        Check.refused(x, "mirror, A is not OPEN", x.mirror(50, 0), 7);
    }

    private static void promise25And26FirstTurnings() {
        for (int level = 1; level <= 30; level++) {
            WalkBench x = new WalkBench();
            Check.steps(x, 1, 1, 1, -1);
            Check.holds("from", x.from(level - 20, level));
            for (int n = 1; n <= 60; n++) {
                boolean comes = n >= level && (n - level) % 2 == 0;
                BigInteger rows = comes ? BigInteger.valueOf(choose(n, (n - level) / 2)) : BigInteger.ZERO;
                Check.fine(x, "turnings", x.turnings(n), rows.longValueExact());
                BigInteger due = rows.multiply(BigInteger.valueOf(level)).divide(BigInteger.valueOf(n));
                Check.fine(x, "first", x.first(n), due.longValueExact());
            }
        }
        // what is BARRED, the KIND and the edge are not looked at
        WalkBench x = new WalkBench();
        Check.steps(x, 1, 1, 1, -1);
        Check.holds("kind", x.kind(2, 1));
        Check.holds("from", x.from(29, 2));
        Check.holds("bar", x.bar(29, 2, true));
        Check.fine(x, "first(4)", x.first(4), 2);
        Check.fine(x, "turnings(4)", x.turnings(4), 4);
        Check.fine(x, "first(60)", x.first(60), choose(60, 29) / 30);
        Check.steps(x, 0, 3, 0, -1, 1, -1, 1, 0);
        Check.holds("from", x.from(0, 1));
        Check.fine(x, "first(1)", x.first(1), 2);
        Check.fine(x, "first(2)", x.first(2), 2);
        Check.fine(x, "turnings(2)", x.turnings(2), 4);
        Check.fine(x, "first(5)", x.first(5), 2 + 16);
        Check.fine(x, "turnings(5)", x.turnings(5), 5 * (2 + 16));
        greatComings();
    }

    private static void greatComings() {
        WalkBench x = new WalkBench();
        Check.steps(x, 0, -1, 1, -1, 2, -1, 3, -1);
        Check.holds("from", x.from(0, 30));
        Check.fine(x, "first(30), 4 to the power 30", x.first(30), 1L << 60);
        Check.fine(x, "first(60), none", x.first(60), 0);
        Check.steps(x, 0, -1, 1, -1, 2, -1, 3, -1, -1, -1, -2, -1, -3, -1);
        Check.refused(x, "first(30), 7 to the power 30", x.first(30), 9);
        Check.refused(x, "turnings(30), 7 to the power 30", x.turnings(30), 9);
        Check.holds("from", x.from(0, 22));
        Check.fine(x, "first(22), 7 to the power 22", x.first(22), 3909821048582988049L);
        Check.steps(x, 0, -1, 1, -1, 2, -1, 3, -1, 1, 0);
        Check.holds("from", x.from(0, 30));
        Check.refused(x, "first(31), 30 times 2 to the power 60", x.first(31), 9);
        Check.steps(x, 0, -1, 0, 1);
        Check.holds("from", x.from(0, 1));
        Check.fine(x, "first(59)", x.first(59), choose(59, 29) / 59);
        Check.steps(x, 0, -1, 0, 1, 1, -1);
        BigInteger all = BigInteger.valueOf(choose(41, 20)).multiply(BigInteger.TWO.pow(21));
        Check.holds("these are not GREAT", all.compareTo(BigInteger.valueOf(GREAT)) < 0);
        Check.fine(x, "turnings(41)", x.turnings(41), all.longValueExact());
        // FIRST is told where TURNINGS are too many
        all = BigInteger.valueOf(choose(45, 22)).multiply(BigInteger.TWO.pow(23));
        Check.holds("these are GREAT", all.compareTo(BigInteger.valueOf(GREAT)) >= 0);
        Check.refused(x, "turnings(45)", x.turnings(45), 9);
        Check.fine(x, "first(45)", x.first(45), all.divide(BigInteger.valueOf(45)).longValueExact());
    }

    private static void promise25And26Refused() {
        WalkBench x = new WalkBench();
        int[] wrong = {0, -1, 61, Integer.MAX_VALUE, Integer.MIN_VALUE};
        for (int n : wrong) {
            Check.refused(x, "first(" + n + ")", x.first(n), 2);
            Check.refused(x, "turnings(" + n + ")", x.turnings(n), 2);
        }
        Check.refused(x, "first(1), A has y 0", x.first(1), 7);
        Check.refused(x, "turnings(1), A has y 0", x.turnings(1), 7);
        Check.steps(x, 0, 1, 0, -2);
        Check.refused(x, "first(0), the number ahead of the STEPS", x.first(0), 2);
        Check.refused(x, "first(1), the STEPS ahead of A", x.first(1), 5);
        Check.refused(x, "turnings(1), the STEPS ahead of A", x.turnings(1), 5);
        Check.holds("from", x.from(0, 2));
        Check.refused(x, "first(1), a STEP of dy -2", x.first(1), 5);
        Check.steps(x, 0, 1, 0, -1);
        Check.fine(x, "first(2)", x.first(2), 1);
        Check.holds("from", x.from(0, -1));
        Check.refused(x, "first(2), A has y -1", x.first(2), 7);
        Check.refused(x, "turnings(2), A has y -1", x.turnings(2), 7);
    }
}
