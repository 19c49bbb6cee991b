import java.util.NoSuchElementException;

/**
 * Terms 3: for each call each STATUS that its promise names, the order of those that may hold at once, and that a
 * refused call gives NONE or false and changes nothing but STATUS.
 */
public final class Terms3Test {
    private static final int MIN = Integer.MIN_VALUE;
    private static final int MAX = Integer.MAX_VALUE;

    /** Something that is done with an object; its answer is a Boolean, an Integer or a Long. */
    private interface Deed {
        Object on(WalkBench x);
    }

    private static final Deed A_BARRED = x -> x.bar(1, 1, true);
    private static final Deed B_BARRED = x -> x.bar(2, 3, true);
    private static final Deed A_OUTSIDE = x -> x.from(1, 8);
    private static final Deed B_OUTSIDE = x -> x.to(2, -1);
    private static final Deed KIND_WALK = x -> x.kind(0, 0);
    private static final Deed KIND_RING = x -> x.kind(4, 4);
    private static final Deed RIGHT_ALONE = x -> told(x, 1, 0);
    private static final Deed DEEP_STEPS = x -> told(x, 0, 1, 0, -2);
    private static final Deed MIRRORED = x -> told(x, 0, 1, 0, -1) && x.kind(1, 0) && x.bar(3, 3, false) && x.bar(4, 1, false);

    private Terms3Test() {
    }

    public static void main(String[] args) {
        sheet();
        write();
        read();
        pour();
        pourOrder();
        steps();
        stepAndTold();
        kind();
        squares();
        wall();
        count();
        all();
        least();
        sum();
        best();
        walk();
        number();
        numberOrder();
        draw();
        mirror();
        firstAndTurnings();
        familyAndPlace();
        table();
        worth();
        boxes();
        brackets();
        order();
        farRulePart();
        elseItIs0();
        statusAndOutHaveNone();
        whatTellsChangesNothing();
        outAndRuleAreKept();
        objectsAreApart();
        all512CallsAreAnswered();
        Check.end();
    }

    /** Makes STEPS of these numbers by SHEET 2, which is laid anew behind it; SHEET 3 stays MISSING. */
    private static boolean told(WalkBench x, int... numbers) {
        boolean fine = x.sheet(2, 0, numbers.length);
        for (int i = 0; i < numbers.length; i++) {
            fine &= x.write(2, i, numbers[i]);
        }
        return fine && x.steps(2, numbers.length / 2) && laid(x, 2, 0, 1, 0, 1, 0, 3);
    }

    private static boolean laid(WalkBench x, int sheet, int sort, int... numbers) {
        boolean fine = x.sheet(sheet, sort, numbers.length);
        for (int i = 0; i < numbers.length; i++) {
            fine &= x.write(sheet, i, numbers[i]);
        }
        return fine;
    }

    /** An object of which nothing is as at first, but that SHEET 3 is MISSING. */
    private static WalkBench rich() {
        WalkBench x = new WalkBench();
        boolean fine = told(x, 1, 0, 0, 1, -1, 0, 0, -1, 1, 1);
        fine &= x.told(0, 2) && x.told(4, 5);
        fine &= x.kind(2, 7) && x.bar(3, 3, true) && x.bar(4, 1, true) && x.from(1, 1) && x.to(2, 3);
        fine &= x.family(2) && x.place(0, true, 2, 2) && x.place(1, false, -1, 1) && x.place(1, true, 1, 2);
        fine &= x.rule() == 8 && x.brackets(3, 2) == 6;
        fine &= laid(x, 0, 2, 1, 2, 4, 0, 0, 1) && laid(x, 1, 1, 0, 0, 1, 0);
        Check.holds("an object is made ready", fine);
        return x;
    }

    /** What an object answers to many calls; SHEETS are written to at last, so this is done once with each object. */
    private static String picture(WalkBench x) {
        StringBuilder seen = new StringBuilder();
        for (int s = 0; s < 4; s++) {
            for (int i = 0; i < 8; i++) {
                see(seen, x, x.read(s, i));
            }
            see(seen, x, x.read(s, 59));
        }
        for (int k = 0; k < 9; k++) {
            for (int what = 0; what < 3; what++) {
                see(seen, x, x.step(k, what));
            }
        }
        int[][] squares = {{1, 1}, {2, 3}, {0, -1}, {-1, 0}, {0, 7}, {0, 8}, {29, 5}, {30, 5}, {3, 5}, {4, 5}, {3, 3}, {4, 1}, {5, 5},
            {1, 2}, {30, 30}, {-30, -30}};
        for (int[] s : squares) {
            see(seen, x, x.open(s[0], s[1]));
        }
        for (int n = 0; n < 6; n++) {
            see(seen, x, x.count(n));
        }
        see(seen, x, x.all(2));
        see(seen, x, x.least());
        see(seen, x, x.best(3, 4, true));
        see(seen, x, x.far(30));
        for (int i = 0; i < 3; i++) {
            for (int j = 0; j < 3; j++) {
                see(seen, x, x.table(i, j));
            }
        }
        see(seen, x, x.worth());
        for (int k = 1; k < 10; k++) {
            see(seen, x, x.part(k));
        }
        seen.append(Check.shown(x));
        for (int s = 0; s < 4; s++) {
            see(seen, x, x.write(s, 0, 70000) ? 1 : 0);
            see(seen, x, x.read(s, 0));
        }
        return seen.toString();
    }

    private static void see(StringBuilder seen, WalkBench x, long answer) {
        seen.append(answer).append('/').append(x.status()).append(' ');
    }

    private static void refused(int status, String what, Deed call, Deed... before) {
        refused(status, what, rich(), rich(), call, before);
    }

    /** The same with an object of which nothing is told. */
    private static void refusedAtFirst(int status, String what, Deed call, Deed... before) {
        refused(status, what, new WalkBench(), new WalkBench(), call, before);
    }

    private static void refused(int status, String what, WalkBench x, WalkBench other, Deed call, Deed... before) {
        for (Deed deed : before) {
            Check.holds("ahead of " + what, !isNone(deed.on(x)) && !isNone(deed.on(other)));
        }
        Check.holds(what + " gives NONE or false", isNone(call.on(x)));
        Check.same("status() after " + what, x.status(), status);
        Check.holds(what + " changes nothing else", picture(x).equals(picture(other)));
    }

    private static boolean isNone(Object answer) {
        return answer.equals(false) || answer.equals(WalkBench.NONE) || answer.equals((long) WalkBench.NONE);
    }

    private static void sheet() {
        refused(1, "sheet(-1, 0, 1)", x -> x.sheet(-1, 0, 1));
        refused(1, "sheet(4, 0, 1)", x -> x.sheet(4, 0, 1));
        refused(1, "sheet(0, -1, 1)", x -> x.sheet(0, -1, 1));
        refused(1, "sheet(0, 3, 1)", x -> x.sheet(0, 3, 1));
        refused(1, "sheet(3, MAX, 1)", x -> x.sheet(3, MAX, 1));
        refused(1, "sheet(3, MIN, 1)", x -> x.sheet(3, MIN, 1));
        refused(2, "sheet(0, 0, 65)", x -> x.sheet(0, 0, 65));
        refused(2, "sheet(3, 2, 65)", x -> x.sheet(3, 2, 65));
        refused(2, "sheet(0, 0, MAX)", x -> x.sheet(0, 0, MAX));
        refused(6, "sheet(0, 0, -1)", x -> x.sheet(0, 0, -1));
        refused(6, "sheet(3, 2, -1)", x -> x.sheet(3, 2, -1));
        refused(6, "sheet(0, 0, MIN)", x -> x.sheet(0, 0, MIN));
        refused(1, "sheet(4, 0, 65), 1 ahead of 2", x -> x.sheet(4, 0, 65));
        refused(1, "sheet(0, 3, 65), 1 ahead of 2", x -> x.sheet(0, 3, 65));
        refused(1, "sheet(-1, 0, -1), 1 ahead of 6", x -> x.sheet(-1, 0, -1));
        refused(1, "sheet(0, -1, -1), 1 ahead of 6", x -> x.sheet(0, -1, -1));
    }

    private static void write() {
        refused(1, "write(-1, 0, 9)", x -> x.write(-1, 0, 9));
        refused(1, "write(4, 0, 9)", x -> x.write(4, 0, 9));
        refused(3, "write(3, 0, 9)", x -> x.write(3, 0, 9));
        refused(4, "write(0, 6, 9)", x -> x.write(0, 6, 9));
        refused(4, "write(0, -1, 9)", x -> x.write(0, -1, 9));
        refused(4, "write(1, 4, 9)", x -> x.write(1, 4, 9));
        refused(4, "write(1, -1, 9)", x -> x.write(1, -1, 9));
        refused(4, "write(0, MAX, 9)", x -> x.write(0, MAX, 9));
        refused(4, "write(0, MIN, 9)", x -> x.write(0, MIN, 9));
        refused(1, "write(4, -1, 9), 1 ahead of 4", x -> x.write(4, -1, 9));
        refused(3, "write(3, -1, 9), 3 ahead of 4", x -> x.write(3, -1, 9));
        refused(3, "write(3, 64, 9), 3 ahead of 4", x -> x.write(3, 64, 9));
    }

    private static void read() {
        refused(1, "read(-1, 0)", x -> x.read(-1, 0));
        refused(1, "read(4, 0)", x -> x.read(4, 0));
        refused(3, "read(3, 0)", x -> x.read(3, 0));
        refused(4, "read(0, 6)", x -> x.read(0, 6));
        refused(4, "read(0, -1)", x -> x.read(0, -1));
        refused(4, "read(1, 4)", x -> x.read(1, 4));
        refused(4, "read(1, -1)", x -> x.read(1, -1));
        refused(4, "read(0, MAX)", x -> x.read(0, MAX));
        refused(4, "read(0, MIN)", x -> x.read(0, MIN));
        refused(1, "read(4, -1), 1 ahead of 4", x -> x.read(4, -1));
        refused(3, "read(3, -1), 3 ahead of 4", x -> x.read(3, -1));
        refused(3, "read(3, 64), 3 ahead of 4", x -> x.read(3, 64));
    }

    private static void pour() {
        refused(1, "pour(-1, 0, 0, 0, 1)", x -> x.pour(-1, 0, 0, 0, 1));
        refused(1, "pour(4, 0, 0, 0, 1)", x -> x.pour(4, 0, 0, 0, 1));
        refused(1, "pour(0, 0, -1, 0, 1)", x -> x.pour(0, 0, -1, 0, 1));
        refused(1, "pour(0, 0, 4, 0, 1)", x -> x.pour(0, 0, 4, 0, 1));
        refused(3, "pour(3, 0, 0, 0, 1)", x -> x.pour(3, 0, 0, 0, 1));
        refused(3, "pour(0, 0, 3, 0, 1)", x -> x.pour(0, 0, 3, 0, 1));
        refused(3, "pour(3, 0, 3, 0, 0)", x -> x.pour(3, 0, 3, 0, 0));
        refused(11, "pour(0, 0, 1, 0, 1)", x -> x.pour(0, 0, 1, 0, 1));
        refused(11, "pour(1, 0, 0, 0, 1)", x -> x.pour(1, 0, 0, 0, 1));
        refused(11, "pour(2, 0, 1, 0, 1)", x -> x.pour(2, 0, 1, 0, 1));
        refused(11, "pour(0, 0, 2, 0, 0), of none", x -> x.pour(0, 0, 2, 0, 0));
        refused(6, "pour(0, 0, 0, 0, -1)", x -> x.pour(0, 0, 0, 0, -1));
        refused(6, "pour(0, 3, 0, 1, MIN)", x -> x.pour(0, 3, 0, 1, MIN));
        int[][] wrong = {{0, 0, 7}, {6, 0, 1}, {0, 6, 1}, {-1, 0, 1}, {0, -1, 1}, {1, 0, 6}, {0, 1, 6}, {5, 0, 2}, {0, 5, 2},
            {MAX, 0, 1}, {0, MAX, 1}, {MIN, 0, 1}, {0, MIN, 1}, {0, 0, MAX}, {1, 0, MAX}, {0, 1, MAX}, {MAX, MAX, MAX}, {-1, 0, MAX},
            {-1, 0, 0}, {0, -1, 0}, {7, 0, 0}, {0, 7, 0}};
        for (int[] w : wrong) {
            refused(4, "pour(0, " + w[0] + ", 0, " + w[1] + ", " + w[2] + ")", x -> x.pour(0, w[0], 0, w[1], w[2]));
        }
        // the shorter of two, on either side
        Deed longer = x -> laid(x, 3, 2, 5, 6, 7, 8, 9, 10, 11, 12);
        refused(4, "pour(3, 0, 0, 0, 7)", x -> x.pour(3, 0, 0, 0, 7), longer);
        refused(4, "pour(0, 0, 3, 0, 7)", x -> x.pour(0, 0, 3, 0, 7), longer);
        refused(4, "pour(3, 2, 0, 0, 7)", x -> x.pour(3, 2, 0, 0, 7), longer);
    }

    // promise 6: "1, 3 (either), 11, 6, 4, asked in this order"
    private static void pourOrder() {
        refused(1, "pour(4, 0, 3, 0, 1), 1 ahead of 3", x -> x.pour(4, 0, 3, 0, 1));
        refused(1, "pour(3, 0, 4, 0, 1), 1 ahead of 3", x -> x.pour(3, 0, 4, 0, 1));
        refused(1, "pour(4, 0, 0, 0, -1), 1 ahead of 6", x -> x.pour(4, 0, 0, 0, -1));
        refused(1, "pour(0, 9, 4, 0, 1), 1 ahead of 4", x -> x.pour(0, 9, 4, 0, 1));
        refused(3, "pour(3, 0, 1, 0, 1), 3 ahead of 11", x -> x.pour(3, 0, 1, 0, 1));
        refused(3, "pour(0, 0, 3, 0, 1), 3 ahead of 11", x -> x.pour(0, 0, 3, 0, 1));
        refused(3, "pour(3, 0, 0, 0, -1), 3 ahead of 6", x -> x.pour(3, 0, 0, 0, -1));
        refused(3, "pour(2, 0, 3, 0, -1), 3 ahead of 6", x -> x.pour(2, 0, 3, 0, -1));
        refused(3, "pour(3, 9, 0, 9, 1), 3 ahead of 4", x -> x.pour(3, 9, 0, 9, 1));
        refused(3, "pour(2, -1, 3, 0, 1), 3 ahead of 4", x -> x.pour(2, -1, 3, 0, 1));
        refused(11, "pour(0, 0, 1, 0, -1), 11 ahead of 6", x -> x.pour(0, 0, 1, 0, -1));
        refused(11, "pour(0, 9, 1, 0, 1), 11 ahead of 4", x -> x.pour(0, 9, 1, 0, 1));
        refused(11, "pour(0, 0, 1, -1, 1), 11 ahead of 4", x -> x.pour(0, 0, 1, -1, 1));
        refused(11, "pour(0, 0, 1, 0, 5), 11 ahead of 4", x -> x.pour(0, 0, 1, 0, 5));
        refused(6, "pour(0, 9, 0, 0, -1), 6 ahead of 4", x -> x.pour(0, 9, 0, 0, -1));
        refused(6, "pour(0, 0, 0, -1, -1), 6 ahead of 4", x -> x.pour(0, 0, 0, -1, -1));
        refused(6, "pour(0, -1, 0, 9, MIN), 6 ahead of 4", x -> x.pour(0, -1, 0, 9, MIN));
    }

    // promise 7: "1; 3; 2: so many; 4; 2: a STEP; asked in this order"
    private static void steps() {
        refused(1, "steps(-1, 1)", x -> x.steps(-1, 1));
        refused(1, "steps(4, 1)", x -> x.steps(4, 1));
        refused(3, "steps(3, 1)", x -> x.steps(3, 1));
        refused(2, "steps(0, 0)", x -> x.steps(0, 0));
        refused(2, "steps(0, -1)", x -> x.steps(0, -1));
        refused(2, "steps(0, MIN)", x -> x.steps(0, MIN));
        refused(2, "steps(0, 9) of 18 numbers", x -> x.steps(0, 9), x -> x.sheet(0, 0, 18));
        refused(4, "steps(2, 3) of 5 numbers", x -> x.steps(2, 3));
        refused(4, "steps(3, 8) of 15 numbers", x -> x.steps(3, 8), x -> laid(x, 3, 2, 1, 0, 2, 0, 3, 0, 0, 1, 0, 2, 0, 3, 1, 1, 2));
        refused(2, "steps(0, 2), a dx of 4", x -> x.steps(0, 2));
        refused(2, "steps(0, 3), a dx of 4", x -> x.steps(0, 3));
        refused(2, "steps(1, 1), both 0", x -> x.steps(1, 1));
        refused(2, "steps(1, 2), the first both 0", x -> x.steps(1, 2));
        refused(2, "steps(2, 2), two alike", x -> x.steps(2, 2));
        refused(1, "steps(4, 0), 1 ahead of 2", x -> x.steps(4, 0));
        refused(1, "steps(-1, 9), 1 ahead of 2", x -> x.steps(-1, 9));
        refused(3, "steps(3, 0), 3 ahead of 2", x -> x.steps(3, 0));
        refused(3, "steps(3, 9), 3 ahead of 2", x -> x.steps(3, 9));
        refused(2, "steps(0, 9), 2 ahead of 4", x -> x.steps(0, 9));
        refused(2, "steps(0, MAX), 2 ahead of 4", x -> x.steps(0, MAX));
        refused(4, "steps(0, 4), 4 ahead of 2 of a STEP", x -> x.steps(0, 4));
        refused(4, "steps(1, 3), 4 ahead of 2 of a STEP", x -> x.steps(1, 3));
        refused(4, "steps(2, 3), 4 ahead of 2 of a STEP", x -> x.steps(2, 3));
    }

    private static void stepAndTold() {
        refused(2, "step(0, -1)", x -> x.step(0, -1));
        refused(2, "step(0, 3)", x -> x.step(0, 3));
        refused(2, "step(0, MAX)", x -> x.step(0, MAX));
        refused(2, "step(0, MIN)", x -> x.step(0, MIN));
        refused(8, "step(5, 0)", x -> x.step(5, 0));
        refused(8, "step(-1, 2)", x -> x.step(-1, 2));
        refused(8, "step(8, 1)", x -> x.step(8, 1));
        refused(8, "step(MAX, 0)", x -> x.step(MAX, 0));
        refused(8, "step(MIN, 0)", x -> x.step(MIN, 0));
        refused(2, "step(5, 3), 2 ahead of 8", x -> x.step(5, 3));
        refused(2, "step(-1, -1), 2 ahead of 8", x -> x.step(-1, -1));
        refused(8, "told(5, 3)", x -> x.told(5, 3));
        refused(8, "told(-1, 3)", x -> x.told(-1, 3));
        refused(8, "told(MAX, 3)", x -> x.told(MAX, 3));
        refused(8, "told(MIN, 3)", x -> x.told(MIN, 3));
        refused(2, "told(0, 10)", x -> x.told(0, 10));
        refused(2, "told(4, -1)", x -> x.told(4, -1));
        refused(2, "told(0, MAX)", x -> x.told(0, MAX));
        refused(2, "told(0, MIN)", x -> x.told(0, MIN));
        refused(8, "told(5, 10), 8 ahead of 2", x -> x.told(5, 10));
        refused(8, "told(-1, -1), 8 ahead of 2", x -> x.told(-1, -1));
    }

    private static void kind() {
        int[][] wrong = {{-1, 0}, {5, 0}, {MAX, 0}, {MIN, 0}, {-1, 5}, {5, 5}, {0, 1}, {0, -1}, {0, 5}, {1, 1}, {1, -1}, {1, 30},
            {2, -1}, {2, 31}, {2, MAX}, {2, MIN}, {3, 1}, {3, -1}, {3, 5}, {4, 0}, {4, -1}, {4, 31}, {4, MAX}, {4, MIN}};
        for (int[] w : wrong) {
            refused(2, "kind(" + w[0] + ", " + w[1] + ")", x -> x.kind(w[0], w[1]));
            refused(2, "kind(" + w[0] + ", " + w[1] + ") on a RING", x -> x.kind(w[0], w[1]), KIND_RING);
        }
    }

    private static void squares() {
        int[][] wrong = {{31, 0}, {-31, 0}, {0, 31}, {0, -31}, {31, 31}, {-31, -31}, {MAX, MAX}, {MIN, MIN}, {0, MAX}, {MIN, 0}};
        for (int[] w : wrong) {
            String at = "(" + w[0] + ", " + w[1] + ")";
            refused(2, "bar" + at, x -> x.bar(w[0], w[1], true));
            refused(2, "bar" + at + " no more", x -> x.bar(w[0], w[1], false));
            refused(2, "from" + at, x -> x.from(w[0], w[1]));
            refused(2, "to" + at, x -> x.to(w[0], w[1]));
            refused(2, "open" + at, x -> x.open(w[0], w[1]));
        }
    }

    // promise 12: "1; 3; 2: below 0; 4; 2: a SQUARE; asked in this order"
    private static void wall() {
        refused(1, "wall(-1, 1)", x -> x.wall(-1, 1));
        refused(1, "wall(4, 0)", x -> x.wall(4, 0));
        refused(3, "wall(3, 0)", x -> x.wall(3, 0));
        refused(2, "wall(0, -1)", x -> x.wall(0, -1));
        refused(2, "wall(0, MIN)", x -> x.wall(0, MIN));
        int[] wrong = {4, 33, 1 << 30, (1 << 30) + 1, MAX};
        for (int many : wrong) {
            refused(4, "wall(0, " + many + ")", x -> x.wall(0, many));
        }
        refused(4, "wall(2, 3) of 5 numbers", x -> x.wall(2, 3));
        for (int i = 0; i < 6; i++) {
            int place = i;
            refused(2, "wall(0, 3), 31 in place " + i, x -> x.wall(0, 3), x -> x.write(0, place, 31));
            refused(2, "wall(0, 3), -31 in place " + i, x -> x.wall(0, 3), x -> x.write(0, place, -31));
        }
        refused(1, "wall(4, -1), 1 ahead of 2", x -> x.wall(4, -1));
        refused(1, "wall(4, 99), 1 ahead of 4", x -> x.wall(4, 99));
        refused(3, "wall(3, -1), 3 ahead of 2", x -> x.wall(3, -1));
        refused(3, "wall(3, 99), 3 ahead of 4", x -> x.wall(3, 99));
        refused(4, "wall(0, 4), 4 ahead of 2 of a SQUARE", x -> x.wall(0, 4), x -> x.write(0, 0, 31));
    }

    private static void count() {
        int[] wrong = {-1, 61, MAX, MIN};
        for (int n : wrong) {
            refused(2, "count(" + n + ")", x -> x.count(n));
            refused(2, "count(" + n + "), 2 ahead of 7", x -> x.count(n), A_BARRED);
        }
        Deed[] closed = {A_BARRED, B_BARRED, A_OUTSIDE, B_OUTSIDE};
        for (Deed before : closed) {
            refused(7, "count(3)", x -> x.count(3), before);
            refused(7, "count(60), 7 ahead of 9", x -> x.count(60), before);
        }
        refused(9, "count(60)", x -> x.count(60));
    }

    private static void all() {
        int[] wrong = {-1, 61, MAX, MIN};
        for (int n : wrong) {
            refused(2, "all(" + n + ")", x -> x.all(n));
            refused(2, "all(" + n + "), 2 ahead of 7", x -> x.all(n), A_BARRED);
        }
        refused(7, "all(3), A is BARRED", x -> x.all(3), A_BARRED);
        refused(7, "all(0), A is outside the KIND", x -> x.all(0), A_OUTSIDE);
        refused(7, "all(60), 7 ahead of 9", x -> x.all(60), A_BARRED);
        refused(9, "all(60)", x -> x.all(60));
        refused(9, "all(60), B is not looked at", x -> x.all(60), B_BARRED);
    }

    private static void least() {
        Deed[] closed = {A_BARRED, B_BARRED, A_OUTSIDE, B_OUTSIDE};
        for (Deed before : closed) {
            refused(7, "least()", x -> x.least(), before);
            refused(7, "least(), 7 ahead of 8", x -> x.least(), RIGHT_ALONE, before);
        }
        refused(8, "least()", x -> x.least(), RIGHT_ALONE);
    }

    private static void sum() {
        int[][] wrong = {{-1, 3, 1}, {4, 3, 1}, {MAX, 3, 1}, {MIN, 3, 1}, {0, -1, 1}, {0, 15, 1}, {0, MAX, 1}, {0, MIN, 1},
            {0, 3, -1}, {0, 3, 121}, {0, 3, MAX}, {0, 3, MIN}, {2, 3, 121}, {2, 3, -1}, {2, -1, 1}, {2, 15, 1}};
        for (int[] w : wrong) {
            String asked = "sum(" + w[0] + ", " + w[1] + ", " + w[2] + ")";
            refused(2, asked, x -> x.sum(w[0], w[1], w[2]));
            refused(2, asked + ", 2 ahead of 5", x -> x.sum(w[0], w[1], w[2]), KIND_WALK);
            refused(2, asked + ", 2 ahead of 7", x -> x.sum(w[0], w[1], w[2]), A_BARRED);
        }
        refused(5, "sum(2, 3, 1) in KIND 0", x -> x.sum(2, 3, 1), KIND_WALK);
        refused(5, "sum(2, 3, 1) in KIND 4", x -> x.sum(2, 3, 1), KIND_RING);
        refused(5, "sum(2, 3, 1), 5 ahead of 7", x -> x.sum(2, 3, 1), KIND_WALK, A_BARRED);
        refused(5, "sum(2, 3, 1), 5 ahead of 7", x -> x.sum(2, 3, 1), KIND_RING, B_OUTSIDE);
        Deed[] closed = {A_BARRED, B_BARRED, A_OUTSIDE, B_OUTSIDE};
        for (Deed before : closed) {
            for (int weight = 0; weight <= 3; weight++) {
                int w = weight;
                refused(7, "sum(" + w + ", 3, 1)", x -> x.sum(w, 3, 1), before);
            }
        }
    }

    private static void best() {
        int[][] wrong = {{-1, 3}, {4, 3}, {MAX, 3}, {MIN, 3}, {0, -1}, {0, 15}, {0, MAX}, {0, MIN}, {2, -1}, {2, 15}};
        for (int[] w : wrong) {
            String asked = "best(" + w[0] + ", " + w[1] + ", true)";
            refused(2, asked, x -> x.best(w[0], w[1], true));
            refused(2, asked + ", 2 ahead of 5", x -> x.best(w[0], w[1], true), KIND_WALK);
            refused(2, asked + ", 2 ahead of 7", x -> x.best(w[0], w[1], false), A_BARRED);
            refused(2, asked + ", 2 ahead of 8", x -> x.best(w[0], w[1], false), RIGHT_ALONE);
        }
        refused(5, "best(2, 3, true) in KIND 0", x -> x.best(2, 3, true), KIND_WALK);
        refused(5, "best(2, 3, false) in KIND 4", x -> x.best(2, 3, false), KIND_RING);
        refused(5, "best(2, 3, true), 5 ahead of 7", x -> x.best(2, 3, true), KIND_WALK, A_BARRED);
        refused(5, "best(2, 3, true), 5 ahead of 8", x -> x.best(2, 3, true), KIND_WALK, RIGHT_ALONE);
        refused(8, "best(0, 1, true), there is no WALK", x -> x.best(0, 1, true));
        Deed[] closed = {A_BARRED, B_BARRED, A_OUTSIDE, B_OUTSIDE};
        for (Deed before : closed) {
            for (int weight = 0; weight <= 3; weight++) {
                int w = weight;
                refused(7, "best(" + w + ", 3, true)", x -> x.best(w, 3, true), before);
                refused(7, "best(" + w + ", 1, true), 7 ahead of 8", x -> x.best(w, 1, true), before);
                refused(8, "best(" + w + ", 3, true), none", x -> x.best(w, 3, true), RIGHT_ALONE);
            }
        }
    }

    // promise 21: "2: n; 7; 8; 9: WALKS of n are so many, and k is 0 or more"
    private static void walk() {
        int[] wrong = {-1, 61, MAX, MIN};
        for (int n : wrong) {
            refused(2, "walk(" + n + ", 0)", x -> x.walk(n, 0));
            refused(2, "walk(" + n + ", 0), 2 ahead of 7", x -> x.walk(n, 0), A_BARRED);
            refused(2, "walk(" + n + ", -1), 2 ahead of 8", x -> x.walk(n, -1));
        }
        Deed[] closed = {A_BARRED, B_BARRED, A_OUTSIDE, B_OUTSIDE};
        for (Deed before : closed) {
            refused(7, "walk(3, 0)", x -> x.walk(3, 0), before);
            refused(7, "walk(3, -1), 7 ahead of 8", x -> x.walk(3, -1), before);
            refused(7, "walk(60, 0), 7 ahead of 9", x -> x.walk(60, 0), before);
        }
        long[] none = {-1, Long.MIN_VALUE, Long.MAX_VALUE, 1L << 32, Integer.MAX_VALUE};
        for (long k : none) {
            refused(8, "walk(3, " + k + ")", x -> x.walk(3, k));
        }
        refused(8, "walk(3, how many)", x -> x.walk(3, x.count(3)));
        refused(8, "walk(1, 0), there is none", x -> x.walk(1, 0));
        refused(8, "walk(60, -1), 8 ahead of 9", x -> x.walk(60, -1));
        refused(8, "walk(60, MIN), 8 ahead of 9", x -> x.walk(60, Long.MIN_VALUE));
        refused(9, "walk(60, 0)", x -> x.walk(60, 0));
        refused(9, "walk(60, MAX)", x -> x.walk(60, Long.MAX_VALUE));
    }

    private static void number() {
        refused(1, "number(-1, 0)", x -> x.number(-1, 0));
        refused(1, "number(4, 0)", x -> x.number(4, 0));
        int[] wrong = {-1, 61, MAX, MIN};
        for (int many : wrong) {
            refused(2, "number(0, " + many + ")", x -> x.number(0, many));
        }
        refused(2, "number(3, 61) of 64 numbers", x -> x.number(3, 61), x -> x.sheet(3, 0, 64));
        refused(3, "number(3, 0)", x -> x.number(3, 0));
        refused(4, "number(0, 7)", x -> x.number(0, 7));
        refused(4, "number(2, 6)", x -> x.number(2, 6));
        Deed[] closed = {A_BARRED, B_BARRED, A_OUTSIDE, B_OUTSIDE};
        for (Deed before : closed) {
            refused(7, "number(2, 3)", x -> x.number(2, 3), before);
        }
        // SHEET 2 begins 1, 0, 1: up, right, up from (1, 1) to (2, 3)
        int[][] none = {{1, 0, 0}, {0, 0, 1}, {1, 0, 5}, {1, 0, -1}, {1, 8, 1}, {MAX, 0, 1}, {MIN, 0, 1}, {1, 1, 2}, {1, 1, 1}};
        for (int[] w : none) {
            refused(8, "number of none", x -> x.number(0, 3), x -> laid(x, 0, 2, w));
        }
        refused(8, "number(2, 2), not yet at B", x -> x.number(2, 2));
        refused(8, "number(2, 0), A is not B", x -> x.number(2, 0));
        refused(8, "number(2, 3), over one that is BARRED", x -> x.number(2, 3), x -> x.bar(1, 2, true));
        refused(9, "number(3, 60)", x -> x.number(3, 60), Terms3Test::walkOf60);
    }

    /** SHEET 3 is a WALK of 60: to (2, 2), to B, and from there to the left and back in turn. */
    private static boolean walkOf60(WalkBench x) {
        boolean fine = x.sheet(3, 0, 60) && x.write(3, 0, 4) && x.write(3, 1, 1);
        for (int i = 2; i < 60; i++) {
            fine &= x.write(3, i, i % 2 == 0 ? 2 : 0);
        }
        return fine;
    }

    private static void numberOrder() {
        refused(1, "number(4, 61), 1 ahead of 2", x -> x.number(4, 61));
        refused(1, "number(-1, -1), 1 ahead of 2", x -> x.number(-1, -1));
        refused(1, "number(4, 3), 1 ahead of 7", x -> x.number(4, 3), A_BARRED);
        refused(2, "number(3, 61), 2 ahead of 3", x -> x.number(3, 61));
        refused(2, "number(3, -1), 2 ahead of 3", x -> x.number(3, -1));
        refused(2, "number(0, 61), 2 ahead of 4", x -> x.number(0, 61));
        refused(2, "number(0, -1), 2 ahead of 7", x -> x.number(0, -1), A_BARRED);
        refused(3, "number(3, 5), 3 ahead of 4", x -> x.number(3, 5));
        refused(3, "number(3, 0), 3 ahead of 7", x -> x.number(3, 0), A_BARRED);
        refused(4, "number(0, 7), 4 ahead of 7", x -> x.number(0, 7), A_BARRED);
        refused(4, "number(0, 60), 4 ahead of 7", x -> x.number(0, 60), B_OUTSIDE);
        refused(4, "number(0, 7), 4 ahead of 8", x -> x.number(0, 7), x -> x.write(0, 0, 9));
        refused(4, "number(0, 60), 4 ahead of 9", x -> x.number(0, 60));
        refused(7, "number(2, 2), 7 ahead of 8", x -> x.number(2, 2), B_BARRED);
        refused(7, "number(2, 5), 7 ahead of 8", x -> x.number(2, 5), A_OUTSIDE);
        refused(7, "number(3, 60), 7 ahead of 9", x -> x.number(3, 60), Terms3Test::walkOf60, A_BARRED);
        refused(8, "number(3, 60), 8 ahead of 9", x -> x.number(3, 60), x -> x.sheet(3, 0, 60));
    }

    private static void draw() {
        int[] wrong = {-1, 61, MAX, MIN};
        for (int n : wrong) {
            refused(2, "draw(" + n + ", 1)", x -> x.draw(n, 1));
            refused(2, "draw(" + n + ", 1), 2 ahead of 7", x -> x.draw(n, 1), A_BARRED);
        }
        refused(2, "draw(3, -1)", x -> x.draw(3, -1));
        refused(2, "draw(3, MIN)", x -> x.draw(3, MIN));
        refused(2, "draw(3, -1), 2 ahead of 7", x -> x.draw(3, -1), B_BARRED);
        refused(2, "draw(1, -1), 2 ahead of 8", x -> x.draw(1, -1));
        refused(2, "draw(60, -1), 2 ahead of 9", x -> x.draw(60, -1));
        Deed[] closed = {A_BARRED, B_BARRED, A_OUTSIDE, B_OUTSIDE};
        for (Deed before : closed) {
            refused(7, "draw(3, 1)", x -> x.draw(3, 1), before);
            refused(7, "draw(1, 1), 7 ahead of 8", x -> x.draw(1, 1), before);
            refused(7, "draw(60, 1), 7 ahead of 9", x -> x.draw(60, 1), before);
        }
        refused(8, "draw(1, 1)", x -> x.draw(1, 1));
        refused(8, "draw(0, 0)", x -> x.draw(0, 0));
        refused(8, "draw(60, 1), there is none", x -> x.draw(60, 1), RIGHT_ALONE);
        refused(9, "draw(60, 1)", x -> x.draw(60, 1));
        refused(9, "draw(60, MAX)", x -> x.draw(60, MAX));
    }

    private static void mirror() {
        int[][] wrong = {{-1, 0}, {MIN, 1}, {2, -1}, {2, 2}, {2, MAX}, {2, MIN}, {-1, 2}};
        for (int[] w : wrong) {
            String asked = "mirror(" + w[0] + ", " + w[1] + ")";
            refused(2, asked, x -> x.mirror(w[0], w[1]), MIRRORED);
            refused(2, asked + ", 2 ahead of 5", x -> x.mirror(w[0], w[1]));
            refused(2, asked + ", 2 ahead of 7", x -> x.mirror(w[0], w[1]), MIRRORED, A_BARRED);
        }
        refused(2, "mirror(MAX, 2), 2 ahead of 10", x -> x.mirror(MAX, 2), MIRRORED);
        refused(5, "mirror(2, 0) in KIND 2", x -> x.mirror(2, 0), MIRRORED, x -> x.kind(2, 7));
        refused(5, "mirror(2, 0) in KIND 0", x -> x.mirror(2, 0), MIRRORED, KIND_WALK);
        refused(5, "mirror(2, 0) by other STEPS", x -> x.mirror(2, 0), MIRRORED, x -> told(x, 0, 1, 0, -1, 1, 0));
        refused(5, "mirror(2, 0), 5 ahead of 7", x -> x.mirror(2, 0), MIRRORED, KIND_WALK, A_BARRED);
        refused(5, "mirror(2, 0), 5 ahead of 7", x -> x.mirror(2, 0), MIRRORED, RIGHT_ALONE, B_OUTSIDE);
        refused(5, "mirror(50, 0), 5 ahead of 10", x -> x.mirror(50, 0), MIRRORED, KIND_WALK);
        refused(5, "mirror(50, 0), 5 ahead of 10", x -> x.mirror(50, 0), MIRRORED, RIGHT_ALONE);
        refused(7, "mirror(2, 0), A is below 0", x -> x.mirror(2, 0), MIRRORED, x -> x.from(1, -1));
        refused(7, "mirror(2, 1), B is below 0", x -> x.mirror(2, 1), MIRRORED, B_OUTSIDE);
        refused(7, "mirror(2, 0), A is BARRED", x -> x.mirror(2, 0), MIRRORED, A_BARRED);
        refused(7, "mirror(2, 0), another is BARRED", x -> x.mirror(2, 0), MIRRORED, x -> x.bar(-30, -30, true));
        refused(7, "mirror(50, 0), 7 ahead of 10", x -> x.mirror(50, 0), MIRRORED, x -> x.bar(-30, -30, true));
        refused(7, "mirror(50, 0), 7 ahead of 10", x -> x.mirror(50, 0), MIRRORED, B_OUTSIDE);
        refused(10, "mirror(10, 0) from x 1", x -> x.mirror(10, 0), MIRRORED);
        refused(10, "mirror(MAX, 1)", x -> x.mirror(MAX, 1), MIRRORED);
        refused(10, "mirror(0, 0) from y 29", x -> x.mirror(0, 0), MIRRORED, x -> x.from(0, 29));
    }

    private static void firstAndTurnings() {
        int[] wrong = {0, -1, 61, MAX, MIN};
        for (int n : wrong) {
            refused(2, "first(" + n + ")", x -> x.first(n));
            refused(2, "turnings(" + n + ")", x -> x.turnings(n));
            refused(2, "first(" + n + "), 2 ahead of 5", x -> x.first(n), DEEP_STEPS);
            refused(2, "turnings(" + n + "), 2 ahead of 5", x -> x.turnings(n), DEEP_STEPS);
            refused(2, "first(" + n + "), 2 ahead of 7", x -> x.first(n), x -> x.from(0, 0));
            refused(2, "turnings(" + n + "), 2 ahead of 7", x -> x.turnings(n), x -> x.from(0, 0));
        }
        refused(5, "first(3)", x -> x.first(3), DEEP_STEPS);
        refused(5, "turnings(3)", x -> x.turnings(3), DEEP_STEPS);
        refused(5, "first(3), 5 ahead of 7", x -> x.first(3), DEEP_STEPS, x -> x.from(0, 0));
        refused(5, "turnings(3), 5 ahead of 7", x -> x.turnings(3), DEEP_STEPS, x -> x.from(0, -5));
        refused(7, "first(3), A at y 0", x -> x.first(3), x -> x.from(0, 0));
        refused(7, "turnings(3), A at y 0", x -> x.turnings(3), x -> x.from(0, 0));
        refused(7, "first(60), A at y -30", x -> x.first(60), x -> x.from(0, -30));
        refused(7, "turnings(60), A at y -30", x -> x.turnings(60), x -> x.from(0, -30));
        refused(9, "first(60)", x -> x.first(60));
        refused(9, "turnings(60)", x -> x.turnings(60));
    }

    private static void familyAndPlace() {
        int[] wrong = {0, 5, -1, MAX, MIN};
        for (int many : wrong) {
            refused(2, "family(" + many + ")", x -> x.family(many));
            refusedAtFirst(2, "family(" + many + ") at first", x -> x.family(many));
        }
        int[][] none = {{31, 0}, {-31, 0}, {0, 31}, {0, -31}, {MAX, MIN}};
        for (int[] s : none) {
            String at = "(" + s[0] + ", " + s[1] + ")";
            refused(2, "place of beginning 0 at " + at, x -> x.place(0, false, s[0], s[1]));
            refused(2, "place of end 1 at " + at, x -> x.place(1, true, s[0], s[1]));
            refused(2, "place of end 2 at " + at + ", 2 ahead of 8", x -> x.place(2, true, s[0], s[1]));
            refused(2, "place of beginning -1 at " + at + ", 2 ahead of 8", x -> x.place(-1, false, s[0], s[1]));
            refusedAtFirst(2, "place of beginning 0 of none at " + at + ", 2 ahead of 8", x -> x.place(0, false, s[0], s[1]));
        }
        int[] noneSuch = {2, 3, 4, -1, MAX, MIN};
        for (int k : noneSuch) {
            refused(8, "place of beginning " + k, x -> x.place(k, false, 0, 0));
            refused(8, "place of end " + k, x -> x.place(k, true, 0, 0));
        }
        refusedAtFirst(8, "place of beginning 0 of no FAMILY", x -> x.place(0, false, 0, 0));
        refusedAtFirst(8, "place of end 0 of no FAMILY", x -> x.place(0, true, 0, 0));
    }

    private static void table() {
        int[][] none = {{2, 0}, {0, 2}, {-1, 0}, {0, -1}, {4, 4}, {MAX, 0}, {0, MIN}};
        for (int[] w : none) {
            refused(8, "table(" + w[0] + ", " + w[1] + ")", x -> x.table(w[0], w[1]));
        }
        refusedAtFirst(8, "table(0, 0) of no FAMILY", x -> x.table(0, 0));
        // there are no two of which one could be BARRED
        refused(8, "table(0, 2), its beginning is BARRED, 8 ahead of 7", x -> x.table(0, 2), x -> x.bar(0, 0, true));
        refused(8, "table(-1, 1), its end is BARRED, 8 ahead of 7", x -> x.table(-1, 1), x -> x.bar(1, 2, true));
        Deed far = x -> x.place(0, true, 20, 20);
        refused(7, "table(0, 1), its beginning is BARRED", x -> x.table(0, 1), x -> x.bar(0, 0, true));
        refused(7, "table(0, 1), its end is BARRED", x -> x.table(0, 1), x -> x.bar(1, 2, true));
        refused(7, "table(0, 0), its beginning is BARRED, 7 ahead of 9", x -> x.table(0, 0), far, x -> x.bar(0, 0, true));
        refused(7, "table(0, 0), its end is BARRED, 7 ahead of 9", x -> x.table(0, 0), far, x -> x.bar(20, 20, true));
        refused(9, "table(0, 0)", x -> x.table(0, 0), far);
        refused(9, "table(1, 0)", x -> x.table(1, 0), far);
    }

    private static void worth() {
        refusedAtFirst(8, "worth() of no FAMILY", x -> x.worth());
        Deed far = x -> x.place(0, true, 20, 20);
        int[][] places = {{0, 0}, {2, 2}, {-1, 1}, {1, 2}};
        for (int[] s : places) {
            refused(7, "worth(), (" + s[0] + ", " + s[1] + ") is BARRED", x -> x.worth(), x -> x.bar(s[0], s[1], true));
        }
        refused(7, "worth(), an end is BARRED, 7 ahead of 9", x -> x.worth(), far, x -> x.bar(1, 2, true));
        refused(7, "worth(), the far end is BARRED, 7 ahead of 9", x -> x.worth(), far, x -> x.bar(20, 20, true));
        refused(9, "worth(), one is GREAT", x -> x.worth(), far);
        refused(9, "worth(), the last is GREAT", x -> x.worth(), x -> x.place(1, true, 20, 20));
    }

    private static void boxes() {
        int[] wrong = {-1, 7, MAX, MIN};
        for (int v : wrong) {
            refused(2, "boxes(" + v + ", 1, 1)", x -> x.boxes(v, 1, 1));
            refused(2, "boxes(1, " + v + ", 1)", x -> x.boxes(1, v, 1));
            refused(2, "boxes(1, 1, " + v + ")", x -> x.boxes(1, 1, v));
        }
    }

    private static void brackets() {
        int[] wrong = {-1, 31, MAX, MIN};
        for (int n : wrong) {
            refused(2, "brackets(" + n + ", 0)", x -> x.brackets(n, 0));
            refused(2, "brackets(" + n + ", -1), 2 ahead of 8", x -> x.brackets(n, -1));
            refused(2, "brackets(" + n + ", MAX), 2 ahead of 8", x -> x.brackets(n, Long.MAX_VALUE));
        }
        long[] none = {-1, 5, 6, 1L << 32, (1L << 32) + 1, Long.MAX_VALUE, Long.MIN_VALUE};
        for (long k : none) {
            refused(8, "brackets(3, " + k + ")", x -> x.brackets(3, k));
        }
        refused(8, "brackets(0, 1)", x -> x.brackets(0, 1));
        refused(8, "brackets(30, 3814986502092304)", x -> x.brackets(30, 3814986502092304L));
    }

    private static void order() {
        refused(1, "order(-1, 2)", x -> x.order(-1, 2));
        refused(1, "order(4, 2)", x -> x.order(4, 2));
        int[] wrong = {1, 3, -1, -2, 61, 62, 63, MAX, MAX - 1, MIN, MIN + 1};
        for (int many : wrong) {
            refused(2, "order(0, " + many + "), 2 ahead of 4 and 8", x -> x.order(0, many));
            refused(2, "order(3, " + many + "), 2 ahead of 3", x -> x.order(3, many));
            refused(1, "order(4, " + many + "), 1 ahead of 2", x -> x.order(4, many));
        }
        refused(2, "order(3, 62) of 64 numbers", x -> x.order(3, 62), x -> x.sheet(3, 0, 64));
        refused(3, "order(3, 0)", x -> x.order(3, 0));
        refused(3, "order(3, 60), 3 ahead of 4", x -> x.order(3, 60));
        refused(4, "order(1, 6)", x -> x.order(1, 6));
        refused(4, "order(1, 60)", x -> x.order(1, 60));
        refused(4, "order(0, 8), 4 ahead of 8", x -> x.order(0, 8));
        refused(8, "order(0, 2), it begins with )", x -> x.order(0, 2));
        refused(8, "order(1, 4), ( are more", x -> x.order(1, 4));
        refused(8, "order(1, 2), ( alone", x -> x.order(1, 2));
        refused(8, "order(2, 2), ) and (", x -> x.order(2, 2));
    }

    private static void farRulePart() {
        long[] wrong = {-1, Long.MIN_VALUE, Integer.MIN_VALUE};
        for (long n : wrong) {
            refused(2, "far(" + n + ")", x -> x.far(n));
            refused(2, "far(" + n + "), 2 ahead of 7", x -> x.far(n), A_OUTSIDE);
        }
        Deed[] outside = {A_OUTSIDE, B_OUTSIDE, x -> x.from(0, -1), x -> x.to(0, 8)};
        for (Deed before : outside) {
            refused(7, "far(0)", x -> x.far(0), before);
            refused(7, "far(MAX)", x -> x.far(Long.MAX_VALUE), before);
            refused(7, "rule()", x -> x.rule(), before);
            refused(7, "rule() in another KIND", x -> x.rule(), KIND_RING, before);
        }
        refusedAtFirst(7, "rule() at first", x -> x.rule(), x -> x.from(0, 6));
        int[] none = {0, -1, 9, MAX, MIN};
        for (int k : none) {
            refused(8, "part(" + k + ")", x -> x.part(k));
        }
        refusedAtFirst(8, "part(1) of no RULE", x -> x.part(1));
        refusedAtFirst(8, "part(0) of no RULE", x -> x.part(0));
    }

    // "0 else": each call that stands gives STATUS 0, whatever STATUS was
    private static void elseItIs0() {
        Deed[] calls = {
            x -> x.sheet(3, 0, 4), x -> x.write(0, 0, 0), x -> x.read(0, 0), x -> x.pour(0, 0, 0, 1, 1), x -> x.steps(0, 1),
            x -> x.step(0, 0), x -> x.told(0, 0), x -> x.kind(2, 5), x -> x.bar(5, 5, true), x -> x.wall(1, 1), x -> x.from(1, 1),
            x -> x.to(2, 3), x -> x.open(5, 5), x -> x.count(3), x -> x.all(3), x -> x.least(), x -> x.sum(0, 3, 0),
            x -> x.best(0, 3, true), x -> x.walk(3, 0), x -> x.number(2, 3), x -> x.draw(3, 1), x -> x.first(3), x -> x.turnings(3),
            x -> x.family(1), x -> x.place(0, true, 1, 1), x -> x.table(0, 0), x -> x.worth(), x -> x.boxes(2, 2, 2),
            x -> x.brackets(2, 1), x -> x.order(1, 0), x -> x.far(5), x -> x.rule(), x -> x.part(1),
        };
        int[] statuses = {1, 2, 3, 4, 6, 8, 9, 11};
        Deed[] refused = {
            x -> x.read(4, 0), x -> x.count(61), x -> x.read(3, 0), x -> x.read(0, 6), x -> x.sheet(0, 0, -1), x -> x.step(5, 0),
            x -> x.count(60), x -> x.pour(0, 0, 1, 0, 1),
        };
        for (int i = 0; i < calls.length; i++) {
            WalkBench x = rich();
            int j = i % refused.length;
            Check.holds("write", x.write(0, 0, 3) && x.write(0, 1, 3));
            Check.holds("a refused call", isNone(refused[j].on(x)));
            Check.same("STATUS of a refused call", x.status(), statuses[j]);
            Check.holds("call " + i + " stands", !isNone(calls[i].on(x)));
            Check.same("STATUS after call " + i, x.status(), 0);
        }
        WalkBench x = rich();
        Check.holds("told", MIRRORED.on(x).equals(true));
        Check.refused(x, "mirror(50, 0)", x.mirror(50, 0), 10);
        Check.fine(x, "mirror(2, 0)", x.mirror(2, 0), 0);
        Check.refused(x, "mirror(2, 3)", x.mirror(2, 3), 2);
        Check.fine(x, "mirror(2, 1)", x.mirror(2, 1), 0);
    }

    // "status() and out() have none"
    private static void statusAndOutHaveNone() {
        int[] due = {0, 8, 9, 2, 10, 0};
        Deed[] calls = {x -> x.brackets(3, 1), x -> x.brackets(3, 5), x -> x.count(60), x -> x.boxes(7, 0, 0),
            x -> MIRRORED.on(x).equals(true) ? x.mirror(50, 0) : 0, x -> x.open(0, 0)};
        WalkBench x = rich();
        for (int i = 0; i < due.length; i++) {
            calls[i].on(x);
            Check.same("status()", x.status(), due[i]);
            Check.same("status() after status()", x.status(), due[i]);
            Check.same("out(0)", x.out(0), '(');
            Check.same("status() after out(0)", x.status(), due[i]);
            int[] none = {-1, 6, 60, MAX, MIN};
            for (int k : none) {
                boolean thrown = false;
                try {
                    x.out(k);
                } catch (NoSuchElementException e) {
                    thrown = true;
                }
                Check.holds("out(" + k + ") throws", thrown);
                Check.same("status() after out(" + k + ")", x.status(), due[i]);
            }
        }
    }

    /** Calls that tell something and stand change nothing else, at the ends of their numbers too. */
    private static void whatTellsChangesNothing() {
        Deed[] calls = {
            x -> x.read(0, 0), x -> x.read(0, 5), x -> x.step(4, 2), x -> x.open(-30, 30), x -> x.count(0), x -> x.count(3), x -> x.all(0),
            x -> x.all(12), x -> x.least(), x -> x.sum(0, 0, 0), x -> x.sum(2, 14, 120), x -> x.sum(3, 3, 0), x -> x.best(2, 3, true),
            x -> x.best(1, 14, false), x -> x.number(2, 3), x -> x.draw(3, 0), x -> x.draw(14, MAX), x -> x.first(1), x -> x.first(9),
            x -> x.turnings(9), x -> x.table(0, 0), x -> x.worth(), x -> x.boxes(6, 6, 6), x -> x.order(0, 0), x -> x.order(1, 0),
            x -> x.far(0), x -> x.far(Long.MAX_VALUE), x -> x.part(1), x -> x.part(8), x -> x.status(), x -> x.out(5),
            x -> x.wall(0, 0), x -> x.pour(0, 6, 0, 0, 0), x -> x.bar(5, 5, false), x -> x.rule(), x -> x.brackets(3, 2),
        };
        String due = picture(rich());
        for (int i = 0; i < calls.length; i++) {
            WalkBench x = rich();
            Check.holds("telling call " + i + " stands", !isNone(calls[i].on(x)));
            Check.same("STATUS after telling call " + i, x.status(), 0);
            Check.holds("telling call " + i + " changes nothing", picture(x).equals(due));
        }
    }

    // promises 36 and 37: the RULE that rule() found latest, OUT as walk() or brackets() showed it latest
    private static void outAndRuleAreKept() {
        Deed[] calls = {
            x -> x.sheet(0, 0, 0), x -> x.write(0, 0, 5), x -> x.pour(0, 0, 0, 1, 5), x -> told(x, 0, 1, 0, -1, 0, 2), x -> x.told(0, 9),
            x -> x.kind(2, 0), x -> x.kind(4, 1), x -> x.bar(1, 1, true), x -> x.wall(0, 1), x -> x.from(0, 0), x -> x.to(0, 0),
            x -> x.family(1), x -> x.place(0, false, 1, 1), x -> x.far(99),
        };
        for (int i = 0; i < calls.length; i++) {
            WalkBench x = rich();
            WalkBench other = rich();
            Check.holds("changing call " + i + " stands", !isNone(calls[i].on(x)));
            Check.shows(x, "OUT after changing call " + i, "(())()");
            for (int k = 0; k <= 9; k++) {
                Check.same("part(" + k + ") after changing call " + i, x.part(k), other.part(k));
            }
        }
        WalkBench x = rich();
        Check.fine(x, "walk(3, 0)", x.walk(3, 0), 3);
        Check.shows(x, "walk(3, 0) in place of brackets", "011");
        Check.fine(x, "brackets(0, 0)", x.brackets(0, 0), 0);
        Check.shows(x, "brackets(0, 0) in place of a walk", "");
        Check.holds("kind", x.kind(2, 3));
        Check.fine(x, "rule() below TOP 3", x.rule(), 4);
        Check.refused(x, "part(5), of the RULE ahead alone", x.part(5), 8);
    }

    // promise 1: what one object is told is no other's
    private static void objectsAreApart() {
        WalkBench first = new WalkBench();
        String due = picture(new WalkBench());
        WalkBench x = rich();
        Check.fine(x, "count(3)", x.count(3) > 0);
        Check.holds("an object made ahead of another", picture(first).equals(due));
        Check.holds("an object made behind another", picture(new WalkBench()).equals(due));
        Check.holds("the other", picture(x).equals(picture(rich())));
    }

    // "An object is used for at most 512 calls": the 512th is answered as the first
    private static void all512CallsAreAnswered() {
        WalkBench x = new WalkBench();
        for (int i = 0; i < 127; i++) {
            boolean fine = x.bar(0, 1, i % 2 == 0) && x.count(2) == (i % 2 == 0 ? 3 : 4);
            fine &= x.walk(2, 2) == 2 && x.brackets(3, i % 5) == 6;
            Check.holds("calls " + (4 * i + 1) + " to " + (4 * i + 4), fine);
        }
        Check.holds("call 509", x.family(4));
        Check.same("call 510", x.count(32), 97988011156020294L);
        Check.same("call 511", x.least(), 0);
        Check.same("call 512", x.worth(), 0);
    }
}
