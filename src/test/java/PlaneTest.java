/** Promises 7 to 15: STEPS, KINDS, what is BARRED, A and B. */
public final class PlaneTest {
    private PlaneTest() {
    }

    public static void main(String[] args) {
        promise7Steps();
        promise7StepsRefused();
        promise8Step();
        promise9Told();
        promise10Kind();
        promise10KindOpens();
        promise11Bar();
        promise12Wall();
        promise12WallRefused();
        promise13From();
        promise14To();
        promise15Open();
        Check.end();
    }

    private static void promise7Steps() {
        WalkBench x = new WalkBench();
        Check.holds("told(0, 7)", x.told(0, 7));
        Check.sheet(x, 0, 3, -3, 1, 2, 0, -1);
        Check.fine(x, "steps(0, 2)", x.steps(0, 2));
        Check.fine(x, "step(0, 0)", x.step(0, 0), 3);
        Check.fine(x, "step(0, 1)", x.step(0, 1), -3);
        Check.fine(x, "step(0, 2)", x.step(0, 2), 1);
        Check.fine(x, "step(1, 0)", x.step(1, 0), 1);
        Check.fine(x, "step(1, 1)", x.step(1, 1), 2);
        Check.refused(x, "step(2, 0)", x.step(2, 0), 8);
        Check.fine(x, "all(2)", x.all(2), 4);
        Check.steps(x, 1, 0, 2, 0, 3, 0, -1, 0, -2, 0, -3, 0, 0, 1, 0, -1);
        Check.fine(x, "all(1) by 8 steps", x.all(1), 8);
        Check.steps(x, -3, 3);
        Check.fine(x, "all(1) by 1 step", x.all(1), 1);
    }

    private static void promise7StepsRefused() {
        WalkBench x = new WalkBench();
        Check.refused(x, "steps(4, 1)", x.steps(4, 1), 1);
        Check.refused(x, "steps(-1, 1)", x.steps(-1, 1), 1);
        Check.refused(x, "steps(0, 0), MISSING ahead of so many", x.steps(0, 0), 3);
        Check.sheet(x, 0, 1, 0, 0, 1, 1, 0);
        Check.refused(x, "steps(0, 0)", x.steps(0, 0), 2);
        Check.refused(x, "steps(0, -1)", x.steps(0, -1), 2);
        Check.refused(x, "steps(0, 9), so many ahead of the SHEET's end", x.steps(0, 9), 2);
        Check.refused(x, "steps(0, MAX)", x.steps(0, Integer.MAX_VALUE), 2);
        Check.refused(x, "steps(0, 4)", x.steps(0, 4), 4);
        Check.refused(x, "steps(0, 3), two alike", x.steps(0, 3), 2);
        Check.sheet(x, 0, 0, 0, 1);
        Check.refused(x, "steps(0, 2), the end ahead of a STEP", x.steps(0, 2), 4);
        Check.refused(x, "steps(0, 1), both 0", x.steps(0, 1), 2);
        int[][] wrong = {{4, 0}, {0, 4}, {-4, 0}, {0, -4}, {3, Integer.MIN_VALUE}, {Integer.MAX_VALUE, 0}};
        for (int[] row : wrong) {
            Check.sheet(x, 0, row);
            Check.refused(x, "steps of " + row[0] + ", " + row[1], x.steps(0, 1), 2);
        }
        Check.fine(x, "step(3, 1) is as at first", x.step(3, 1), -1);
        Check.fine(x, "all(1) is as at first", x.all(1), 4);
    }

    private static void promise8Step() {
        WalkBench x = new WalkBench();
        Check.refused(x, "step(0, -1)", x.step(0, -1), 2);
        Check.refused(x, "step(0, 3)", x.step(0, 3), 2);
        Check.refused(x, "step(9, 3)", x.step(9, 3), 2);
        Check.refused(x, "step(-1, 0)", x.step(-1, 0), 8);
        Check.refused(x, "step(4, 2)", x.step(4, 2), 8);
        Check.refused(x, "step(MAX, 0)", x.step(Integer.MAX_VALUE, 0), 8);
        Check.fine(x, "step(2, 0) is -1", x.step(2, 0), -1);
    }

    private static void promise9Told() {
        WalkBench x = new WalkBench();
        Check.fine(x, "told(3, 9)", x.told(3, 9));
        Check.fine(x, "step(3, 2)", x.step(3, 2), 9);
        Check.fine(x, "step(2, 2)", x.step(2, 2), 1);
        Check.fine(x, "told(3, 0)", x.told(3, 0));
        Check.fine(x, "step(3, 2)", x.step(3, 2), 0);
        Check.refused(x, "told(3, 10)", x.told(3, 10), 2);
        Check.refused(x, "told(3, -1)", x.told(3, -1), 2);
        Check.refused(x, "told(4, -1), no STEP ahead of the weight", x.told(4, -1), 8);
        Check.refused(x, "told(-1, 1)", x.told(-1, 1), 8);
        Check.fine(x, "step(3, 2) is as it was", x.step(3, 2), 0);
    }

    private static void promise10Kind() {
        WalkBench x = new WalkBench();
        Check.refused(x, "kind(-1, 0)", x.kind(-1, 0), 2);
        Check.refused(x, "kind(5, 0)", x.kind(5, 0), 2);
        Check.refused(x, "kind(0, 1)", x.kind(0, 1), 2);
        Check.refused(x, "kind(1, 5)", x.kind(1, 5), 2);
        Check.refused(x, "kind(3, -1)", x.kind(3, -1), 2);
        Check.refused(x, "kind(2, -1)", x.kind(2, -1), 2);
        Check.refused(x, "kind(2, 31)", x.kind(2, 31), 2);
        Check.refused(x, "kind(4, 0)", x.kind(4, 0), 2);
        Check.refused(x, "kind(4, 31)", x.kind(4, 31), 2);
        Check.fine(x, "open(0, -1), still KIND 0", x.open(0, -1), 1);
        Check.fine(x, "kind(2, 0)", x.kind(2, 0));
        Check.fine(x, "kind(2, 30)", x.kind(2, 30));
        Check.fine(x, "kind(4, 1)", x.kind(4, 1));
        Check.fine(x, "kind(4, 30)", x.kind(4, 30));
        Check.fine(x, "kind(0, 0)", x.kind(0, 0));
        Check.fine(x, "kind(1, 0)", x.kind(1, 0));
        Check.fine(x, "kind(3, 0)", x.kind(3, 0));
        Check.refused(x, "kind(2, 31)", x.kind(2, 31), 2);
        Check.fine(x, "open(-1, 0), still KIND 3", x.open(-1, 0), 0);
    }

    private static void promise10KindOpens() {
        int[][] sizes = {{0, 0}, {1, 0}, {2, 7}, {2, 0}, {2, 30}, {3, 0}, {4, 5}, {4, 1}, {4, 30}};
        for (int[] row : sizes) {
            for (int px = -30; px <= 30; px += 5) {
                WalkBench x = new WalkBench();
                Check.holds("kind", x.kind(row[0], row[1]));
                for (int py = -30; py <= 30; py++) {
                    Check.same("open", x.open(px, py), isIn(row[0], row[1], px, py) ? 1 : 0);
                    Check.same("open, turned", x.open(py, px), isIn(row[0], row[1], py, px) ? 1 : 0);
                }
            }
        }
    }

    private static boolean isIn(int kind, int size, int x, int y) {
        boolean above = y >= 0;
        boolean right = x >= 0;
        boolean[] in = {true, above, above && y <= size, above && right, right && x < size};
        return in[kind];
    }

    private static void promise11Bar() {
        WalkBench x = new WalkBench();
        Check.fine(x, "count(2)", x.count(2), 4);
        Check.fine(x, "bar(0, 1, true)", x.bar(0, 1, true));
        Check.fine(x, "count(2)", x.count(2), 3);
        Check.fine(x, "bar(0, 1, true) again", x.bar(0, 1, true));
        Check.fine(x, "open(0, 1)", x.open(0, 1), 0);
        Check.fine(x, "bar(0, 1, false)", x.bar(0, 1, false));
        Check.fine(x, "open(0, 1)", x.open(0, 1), 1);
        Check.fine(x, "bar(0, 1, false) again", x.bar(0, 1, false));
        Check.fine(x, "count(2)", x.count(2), 4);
        int[][] corners = {{30, 30}, {-30, 30}, {30, -30}, {-30, -30}};
        for (int[] c : corners) {
            Check.fine(x, "bar of a corner", x.bar(c[0], c[1], true));
            Check.fine(x, "open of it", x.open(c[0], c[1]), 0);
        }
        Check.refused(x, "bar(31, 0)", x.bar(31, 0, true), 2);
        Check.refused(x, "bar(-31, 0)", x.bar(-31, 0, true), 2);
        Check.refused(x, "bar(0, 31)", x.bar(0, 31, true), 2);
        Check.refused(x, "bar(0, -31)", x.bar(0, -31, false), 2);
        Check.refused(x, "bar(MIN, MAX)", x.bar(Integer.MIN_VALUE, Integer.MAX_VALUE, true), 2);
        Check.holds("kind(3, 0)", x.kind(3, 0));
        Check.fine(x, "bar of a SQUARE outside the KIND", x.bar(-5, -5, true));
        Check.holds("kind(0, 0)", x.kind(0, 0));
        Check.fine(x, "open(-5, -5)", x.open(-5, -5), 0);
        Check.holds("kind(1, 0)", x.kind(1, 0));
        Check.holds("bar(-5, -5, false)", x.bar(-5, -5, false));
        Check.fine(x, "open(-5, -5) outside the KIND", x.open(-5, -5), 0);
    }

    private static void promise12Wall() {
        WalkBench x = new WalkBench();
        Check.sheet(x, 0, 1, 1, 2, 2, -30, 30, 1, 1);
        Check.fine(x, "wall(0, 0)", x.wall(0, 0), 0);
        Check.fine(x, "open(1, 1)", x.open(1, 1), 1);
        Check.holds("bar(2, 2, true)", x.bar(2, 2, true));
        Check.fine(x, "wall(0, 4), one BARRED and one told twice", x.wall(0, 4), 2);
        Check.fine(x, "wall(0, 4) again", x.wall(0, 4), 0);
        Check.fine(x, "open(1, 1)", x.open(1, 1), 0);
        Check.fine(x, "open(2, 2)", x.open(2, 2), 0);
        Check.fine(x, "open(-30, 30)", x.open(-30, 30), 0);
        Check.holds("bar(1, 1, false)", x.bar(1, 1, false));
        Check.fine(x, "wall(0, 1)", x.wall(0, 1), 1);
        x = new WalkBench();
        Check.fine(x, "count(2)", x.count(2), 4);
        Check.sheet(x, 1, 1, 0, 0, 1);
        Check.fine(x, "wall(1, 2)", x.wall(1, 2), 2);
        Check.fine(x, "count(2)", x.count(2), 2);
    }

    private static void promise12WallRefused() {
        WalkBench x = new WalkBench();
        Check.refused(x, "wall(4, -1)", x.wall(4, -1), 1);
        Check.refused(x, "wall(-1, -1)", x.wall(-1, -1), 1);
        Check.refused(x, "wall(0, -1), MISSING ahead of below 0", x.wall(0, -1), 3);
        Check.sheet(x, 0, 5, 5, 31, 0, 3);
        Check.refused(x, "wall(0, -1)", x.wall(0, -1), 2);
        Check.refused(x, "wall(0, MIN)", x.wall(0, Integer.MIN_VALUE), 2);
        Check.refused(x, "wall(0, 3), the end ahead of a SQUARE", x.wall(0, 3), 4);
        Check.refused(x, "wall(0, MAX)", x.wall(0, Integer.MAX_VALUE), 4);
        Check.refused(x, "wall(0, 2 to the power 30)", x.wall(0, 1 << 30), 4);
        Check.refused(x, "wall(0, 2 to the power 31)", x.wall(0, 0x40000001), 4);
        Check.refused(x, "wall(0, 2)", x.wall(0, 2), 2);
        Check.fine(x, "open(5, 5), nothing is BARRED", x.open(5, 5), 1);
        Check.fine(x, "wall(0, 1)", x.wall(0, 1), 1);
        int[][] wrong = {{31, 0, 0, 0}, {0, 31, 0, 0}, {-31, 0, 0, 0}, {0, -31, 0, 0}, {0, 0, 31, 0}, {0, 0, 0, 31},
            {0, 0, -31, 0}, {0, 0, 0, -31}};
        for (int[] row : wrong) {
            Check.sheet(x, 1, row);
            Check.refused(x, "wall of what is no SQUARE", x.wall(1, 2), 2);
        }
        Check.fine(x, "open(0, 0)", x.open(0, 0), 1);
    }

    private static void promise13From() {
        WalkBench x = new WalkBench();
        Check.fine(x, "from(1, 1)", x.from(1, 1));
        Check.fine(x, "count(2)", x.count(2), 2);
        Check.fine(x, "least()", x.least(), 2);
        Check.refused(x, "from(31, 0)", x.from(31, 0), 2);
        Check.refused(x, "from(0, -31)", x.from(0, -31), 2);
        Check.refused(x, "from(MAX, MIN)", x.from(Integer.MAX_VALUE, Integer.MIN_VALUE), 2);
        Check.fine(x, "count(2) from where it was", x.count(2), 2);
        Check.fine(x, "from(-30, 30)", x.from(-30, 30));
        Check.fine(x, "least()", x.least(), 60);
        Check.fine(x, "all(1) from a corner", x.all(1), 2);
        Check.holds("bar(-30, 30, true)", x.bar(-30, 30, true));
        Check.fine(x, "from a SQUARE that is BARRED", x.from(-30, 30));
    }

    private static void promise14To() {
        WalkBench x = new WalkBench();
        Check.fine(x, "count(3)", x.count(3), 0);
        Check.fine(x, "to(2, 1)", x.to(2, 1));
        Check.fine(x, "count(3)", x.count(3), 3);
        Check.refused(x, "to(-31, 0)", x.to(-31, 0), 2);
        Check.refused(x, "to(0, 31)", x.to(0, 31), 2);
        Check.fine(x, "count(3) to where it was", x.count(3), 3);
        Check.fine(x, "to(30, -30)", x.to(30, -30));
        Check.fine(x, "least()", x.least(), 60);
    }

    private static void promise15Open() {
        WalkBench x = new WalkBench();
        Check.fine(x, "open(30, 30)", x.open(30, 30), 1);
        Check.refused(x, "open(31, 30)", x.open(31, 30), 2);
        Check.refused(x, "open(30, -31)", x.open(30, -31), 2);
        Check.refused(x, "open(-31, 0)", x.open(-31, 0), 2);
        Check.refused(x, "open(0, 31)", x.open(0, 31), 2);
        Check.holds("kind(2, 3)", x.kind(2, 3));
        Check.fine(x, "open(0, 3)", x.open(0, 3), 1);
        Check.fine(x, "open(0, 4)", x.open(0, 4), 0);
        Check.fine(x, "bar(0, 3, true)", x.bar(0, 3, true));
        Check.fine(x, "open(0, 3)", x.open(0, 3), 0);
    }
}
