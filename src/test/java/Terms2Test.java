import java.math.BigInteger;

/**
 * Terms 2, sentence by sentence: MIRROR, FIRST, TURNINGS, FAMILIES, BOXES, BRACKETS, LEVELS, the RULE and what is
 * DRAWN, each at its boundaries. The sentence that a test holds stands above it.
 */
public final class Terms2Test {
    private static final int MIN = Integer.MIN_VALUE;
    private static final int MAX = Integer.MAX_VALUE;
    private static final long GREAT = 1L << 62;
    private static final int PRIME = 998244353;

    private Terms2Test() {
    }

    public static void main(String[] args) {
        mirrorIsOfAHalf();
        mirrorWantsNothingBarred();
        mirrorStepsRiseOrFallByOne();
        mirrorStepsComeInPairs();
        mirrorEndsAreOpen();
        mirrorHeightIsAtMost28();
        mirrorWidthIsAtMost30();
        mirrorGoesBelow0();
        mirrorOneEndsBelow();
        firstStepsFallByOneAtMost();
        firstBeginsAbove0();
        firstIsOf1To60();
        firstLooksAtNothingElse();
        firstComesTo0AtItsEndAlone();
        turningsComeTo0AtTheirEnd();
        firstGreat();
        turningsGreat();
        familyIs1To4();
        familyPlacesMayBeBarred();
        familyGoesRightAndUpAlone();
        tableIsGreatAbove20000();
        worthOfOneToFour();
        worthMayBeLarge();
        boxesAre0To6();
        bracketsAreOf0To30();
        bracketsNeverCloseFirst();
        bracketsAreInOrder();
        levelsLookAtDyAlone();
        levelsAreBetween0AndTop();
        levelsAreRests();
        levelsOfTheGreatestN();
        ruleMayBeEmpty();
        ruleMayEndIn0();
        ruleMayBe31Long();
        ruleHasTheLeastLength();
        drawnFromTheLeastAndTheGreatestSeed();
        drawnHasAsManyBitsAsTheCountLess1();
        drawnIsBelowTheCount();
        Check.end();
    }

    private static WalkBench half(int... steps) {
        WalkBench x = new WalkBench();
        Check.steps(x, steps);
        Check.holds("kind(1, 0)", x.kind(1, 0));
        return x;
    }

    // MIRROR "(HALF"
    private static void mirrorIsOfAHalf() {
        WalkBench x = half(0, 1, 0, -1);
        Check.fine(x, "mirror(2, 0) in a HALF", x.mirror(2, 0), 2);
        int[] others = {0, 2, 3, 4};
        for (int kind : others) {
            Check.holds("kind", x.kind(kind, kind == 2 || kind == 4 ? 30 : 0));
            Check.refused(x, "mirror(2, 0) in KIND " + kind, x.mirror(2, 0), 5);
            Check.refused(x, "mirror(0, 1) in KIND " + kind, x.mirror(0, 1), 5);
        }
    }

    // "nothing BARRED": no SQUARE at all, however far
    private static void mirrorWantsNothingBarred() {
        int[][] far = {{30, 30}, {-30, 30}, {30, -30}, {-30, -30}, {0, -1}, {0, 0}, {0, 1}};
        WalkBench x = half(0, 1, 0, -1);
        for (int[] s : far) {
            Check.holds("bar", x.bar(s[0], s[1], true));
            Check.refused(x, "mirror(2, 0), (" + s[0] + ", " + s[1] + ") is BARRED", x.mirror(2, 0), 7);
            Check.holds("bar twice", x.bar(s[0], s[1], true));
            Check.holds("bar no more", x.bar(s[0], s[1], false));
            Check.fine(x, "mirror(2, 0), nothing is BARRED", x.mirror(2, 0), 2);
        }
        Check.sheet(x, 0, 5, 5, 5, 5, 6, 6);
        Check.fine(x, "wall(0, 3)", x.wall(0, 3), 2);
        Check.holds("bar no more", x.bar(5, 5, false));
        Check.refused(x, "mirror(2, 0), one of two is BARRED", x.mirror(2, 0), 7);
        Check.holds("bar no more", x.bar(6, 6, false) && x.bar(7, 7, false));
        Check.fine(x, "mirror(2, 0), nothing is BARRED", x.mirror(2, 0), 2);
    }

    // "each STEP has dy 1 or -1"
    private static void mirrorStepsRiseOrFallByOne() {
        WalkBench x = half(0, 1, 0, -1, 3, 1, 3, -1);
        Check.fine(x, "mirror(1, 0)", x.mirror(1, 0), 0);
        for (int dy = 2; dy <= 3; dy++) {
            Check.steps(x, 0, 1, 0, -1, 1, dy, 1, -dy);
            Check.refused(x, "mirror by a dy of " + dy, x.mirror(1, 0), 5);
            Check.steps(x, 1, dy, 1, -dy);
            Check.refused(x, "mirror by a dy of " + dy + " alone", x.mirror(1, 0), 5);
        }
        Check.steps(x, 1, 0, 0, 1, 0, -1);
        Check.refused(x, "mirror by a dy of 0 ahead", x.mirror(1, 0), 5);
        Check.steps(x, 0, 1, 0, -1, 1, 0);
        Check.refused(x, "mirror by a dy of 0 behind", x.mirror(1, 0), 5);
    }

    // "and with (dx, dy) there is (dx, -dy)"
    private static void mirrorStepsComeInPairs() {
        WalkBench x = half(-3, 1, 3, -1, 3, 1, -3, -1, 0, 1, 0, -1, 2, -1, 2, 1);
        Check.fine(x, "mirror(2, 0) by four pairs", x.mirror(2, 0), 2 * (2 + 1));
        Check.steps(x, -3, 1, 3, -1, 3, 1, -3, -1, 0, 1, 0, -1, 2, -1);
        Check.refused(x, "mirror, the last is alone", x.mirror(2, 0), 5);
        Check.steps(x, 2, 1, -3, 1, 3, -1, 3, 1, -3, -1);
        Check.refused(x, "mirror, the first is alone", x.mirror(2, 0), 5);
        Check.steps(x, 1, 1, -1, -1);
        Check.refused(x, "mirror, as many up as down but of another dx", x.mirror(2, 0), 5);
        Check.steps(x, 0, 1);
        Check.refused(x, "mirror, up alone", x.mirror(0, 0), 5);
        Check.steps(x, 0, -1);
        Check.refused(x, "mirror, down alone", x.mirror(0, 0), 5);
    }

    // "A and B OPEN"
    private static void mirrorEndsAreOpen() {
        WalkBench x = half(0, 1, 0, -1);
        Check.holds("from and to", x.from(0, 0) && x.to(0, 0));
        Check.fine(x, "mirror(0, 0), both at y 0", x.mirror(0, 0), 1);
        Check.holds("from", x.from(0, -1));
        Check.refused(x, "mirror(1, 0), A at y -1", x.mirror(1, 0), 7);
        Check.holds("from and to", x.from(0, 0) && x.to(0, -1));
        Check.refused(x, "mirror(1, 0), B at y -1", x.mirror(1, 0), 7);
        Check.refused(x, "mirror(1, 1), B at y -1", x.mirror(1, 1), 7);
        Check.holds("to", x.to(30, 30));
        Check.fine(x, "mirror(1, 0), B in the corner", x.mirror(1, 0), 0);
        Check.fine(x, "mirror(1, 1), B in the corner", x.mirror(1, 1), 0);
    }

    // "n and the y of A together at most 28"
    private static void mirrorHeightIsAtMost28() {
        WalkBench x = half(0, 1, 0, -1);
        for (int n = 0; n <= 10; n++) {
            Check.holds("from and to", x.from(0, 28 - n) && x.to(0, 28));
            Check.fine(x, "mirror(" + n + ", 0) from y " + (28 - n), x.mirror(n, 0), 1);
            Check.holds("from", x.from(0, 29 - n));
            Check.refused(x, "mirror(" + n + ", 0) from y " + (29 - n), x.mirror(n, 0), 10);
        }
        Check.holds("from", x.from(0, 30));
        Check.refused(x, "mirror(0, 0) from y 30", x.mirror(0, 0), 10);
        Check.refused(x, "mirror(MAX, 0) from y 30", x.mirror(MAX, 0), 10);
        Check.refused(x, "mirror(MAX - 1, 1) from y 30", x.mirror(MAX - 1, 1), 10);
    }

    // "n times 3 and the size of the x of A together at most 30"
    private static void mirrorWidthIsAtMost30() {
        WalkBench x = half(3, 1, 3, -1, -3, 1, -3, -1);
        for (int side = -1; side <= 1; side += 2) {
            for (int n = 1; n <= 10; n++) {
                int most = 30 - 3 * n;
                Check.holds("from and to", x.from(side * most, 0) && x.to(side * 30, n));
                Check.fine(x, "mirror(" + n + ", 0) from x " + side * most, x.mirror(n, 0), 1);
                Check.holds("from", x.from(side * (most + 1), 0));
                Check.refused(x, "mirror(" + n + ", 0) from x " + side * (most + 1), x.mirror(n, 0), 10);
            }
            Check.holds("from and to", x.from(side * 30, 0) && x.to(side * 30, 0));
            Check.fine(x, "mirror(0, 0) from x " + side * 30, x.mirror(0, 0), 1);
        }
        Check.holds("from", x.from(0, 0));
        int[] far = {11, 12, 1431655766, 1431655765, 715827883, 1 << 30, MAX};
        for (int n : far) {
            Check.refused(x, "mirror(" + n + ", 0) from x 0", x.mirror(n, 0), 10);
        }
    }

    // "mirror 0: WALKS of KIND WALK of n from A to B": they may go below y 0
    private static void mirrorGoesBelow0() {
        WalkBench x = half(0, 1, 0, -1);
        Check.fine(x, "count(2) in the HALF", x.count(2), 1);
        Check.fine(x, "mirror(2, 0)", x.mirror(2, 0), 2);
        Check.fine(x, "mirror(10, 0)", x.mirror(10, 0), 252);
        Check.fine(x, "mirror(9, 0)", x.mirror(9, 0), 0);
        Check.holds("to", x.to(0, 10));
        Check.fine(x, "mirror(10, 0), up alone", x.mirror(10, 0), 1);
        Check.fine(x, "mirror(9, 0), too high", x.mirror(9, 0), 0);
        Check.holds("to", x.to(1, 10));
        Check.fine(x, "mirror(10, 0), another column", x.mirror(10, 0), 0);
    }

    // "mirror 1: such from A to (x of B, -2 less y of B)"
    private static void mirrorOneEndsBelow() {
        WalkBench x = half(0, 1, 0, -1);
        Check.fine(x, "mirror(1, 1), to y -2", x.mirror(1, 1), 0);
        Check.fine(x, "mirror(2, 1), to y -2", x.mirror(2, 1), 1);
        Check.fine(x, "mirror(4, 1), to y -2", x.mirror(4, 1), 4);
        Check.holds("to", x.to(0, 1));
        Check.fine(x, "mirror(3, 1), to y -3", x.mirror(3, 1), 1);
        Check.fine(x, "mirror(1, 1), to y -3", x.mirror(1, 1), 0);
        Check.holds("to", x.to(0, 8));
        Check.fine(x, "mirror(10, 1), to y -10", x.mirror(10, 1), 1);
        Check.holds("to", x.to(1, 8));
        Check.fine(x, "mirror(10, 1), another column", x.mirror(10, 1), 0);
        Check.refused(x, "mirror(10, 2)", x.mirror(10, 2), 2);
        Check.refused(x, "mirror(10, -1)", x.mirror(10, -1), 2);
        Check.refused(x, "mirror(-1, 1)", x.mirror(-1, 1), 2);
    }

    // FIRST "(each STEP has a dy of -1 or more"
    private static void firstStepsFallByOneAtMost() {
        WalkBench x = new WalkBench();
        Check.holds("from", x.from(0, 3));
        for (int dy = -3; dy <= 3; dy++) {
            for (int at = 0; at <= 1; at++) {
                if (at == 0) {
                    Check.steps(x, 1, dy, 0, -1);
                } else {
                    Check.steps(x, 0, -1, 1, dy);
                }
                if (dy < -1) {
                    Check.refused(x, "first(3) with a dy of " + dy, x.first(3), 5);
                    Check.refused(x, "turnings(3) with a dy of " + dy, x.turnings(3), 5);
                } else {
                    Check.fine(x, "first(3) with a dy of " + dy, x.first(3), dy == -1 ? 8 : 1);
                    Check.fine(x, "turnings(3) with a dy of " + dy, x.turnings(3), dy == -1 ? 8 : 1);
                }
            }
        }
    }

    // "A has y above 0: its LEVEL"
    private static void firstBeginsAbove0() {
        WalkBench x = new WalkBench();
        int[] wrong = {0, -1, -30};
        for (int y : wrong) {
            Check.holds("from", x.from(0, y));
            Check.refused(x, "first(2) from y " + y, x.first(2), 7);
            Check.refused(x, "turnings(2) from y " + y, x.turnings(2), 7);
        }
        Check.holds("from", x.from(0, 1));
        Check.fine(x, "first(1) from y 1", x.first(1), 1);
        Check.fine(x, "turnings(1) from y 1", x.turnings(1), 1);
        Check.holds("from", x.from(0, 30));
        Check.fine(x, "first(29) from y 30", x.first(29), 0);
        Check.fine(x, "first(30) from y 30", x.first(30), 1);
        Check.fine(x, "first(31) from y 30, once aside", x.first(31), 60);
        Check.fine(x, "turnings(30) from y 30", x.turnings(30), 1);
        Check.fine(x, "turnings(31) from y 30", x.turnings(31), 62);
    }

    // "FIRST of n (1 to 60)"
    private static void firstIsOf1To60() {
        WalkBench x = new WalkBench();
        Check.steps(x, 0, 1, 0, -1);
        Check.holds("from", x.from(0, 2));
        int[] wrong = {0, -1, 61, 62, MAX, MIN};
        for (int n : wrong) {
            Check.refused(x, "first(" + n + ")", x.first(n), 2);
            Check.refused(x, "turnings(" + n + ")", x.turnings(n), 2);
        }
        Check.fine(x, "first(1)", x.first(1), 0);
        Check.fine(x, "turnings(1)", x.turnings(1), 0);
        long ways = choose(60, 29).longValueExact();
        Check.fine(x, "first(60)", x.first(60), ways / 30);
        Check.fine(x, "turnings(60)", x.turnings(60), ways);
    }

    // "BARRED SQUARES and the KIND are not looked at, nor how far"
    private static void firstLooksAtNothingElse() {
        WalkBench x = new WalkBench();
        Check.steps(x, 0, 3, 3, -1);
        Check.holds("from and to", x.from(30, 30) && x.to(-30, -30));
        // up beyond y 30, to the right beyond x 30, at last far below B
        Check.fine(x, "first(34), once up by 3", x.first(34), 30);
        Check.fine(x, "turnings(34), once up by 3", x.turnings(34), 34);
        Check.fine(x, "first(58), seven times up by 3", x.first(58), choose(58, 7).longValueExact() * 30 / 58);
        Check.holds("bar", x.bar(30, 30, true) && x.bar(-30, -30, true) && x.bar(30, 0, true) && x.kind(2, 3));
        Check.fine(x, "first(34), A is BARRED and above TOP", x.first(34), 30);
        Check.holds("kind", x.kind(4, 2));
        Check.fine(x, "turnings(34) on a RING", x.turnings(34), 34);
        Check.holds("from", x.from(-30, 1) && x.kind(3, 0));
        Check.steps(x, -3, -1, -3, 0);
        Check.fine(x, "first(60) to the left", x.first(60), 1);
        Check.fine(x, "turnings(60) to the left", x.turnings(60), 60);
    }

    // "of which the last one comes to y 0 for the first time"
    private static void firstComesTo0AtItsEndAlone() {
        WalkBench x = new WalkBench();
        Check.steps(x, 0, 1, 0, -1, 1, 0);
        Check.holds("from", x.from(0, 1));
        Check.fine(x, "first(1), down", x.first(1), 1);
        Check.fine(x, "first(2), level ahead of down alone", x.first(2), 1);
        Check.fine(x, "first(3)", x.first(3), 2);
        Check.fine(x, "turnings(2), level ahead or behind", x.turnings(2), 2);
        Check.fine(x, "turnings(3)", x.turnings(3), 3 + 3);
        Check.steps(x, 0, 1, 1, 0);
        Check.fine(x, "first(5), none falls", x.first(5), 0);
        Check.fine(x, "turnings(5), none falls", x.turnings(5), 0);
    }

    // "TURNINGS of n: all rows of n STEPS that come to y 0 at their end": below 0 and beyond the plane too
    private static void turningsComeTo0AtTheirEnd() {
        WalkBench x = new WalkBench();
        Check.steps(x, 0, 3, 0, -1);
        Check.holds("from", x.from(0, 1));
        for (int u = 0; u <= 14; u++) {
            int n = 4 * u + 1;
            BigInteger ways = choose(n, u);
            Check.fine(x, "turnings(" + n + ")", x.turnings(n), ways.longValueExact());
            Check.fine(x, "first(" + n + ")", x.first(n), ways.longValueExact() / n);
            Check.fine(x, "turnings(" + (n + 1) + ")", x.turnings(n + 1), 0);
        }
    }

    private static BigInteger choose(int n, int k) {
        BigInteger c = BigInteger.ONE;
        for (int i = 1; i <= k; i++) {
            c = c.multiply(BigInteger.valueOf(n - k + i)).divide(BigInteger.valueOf(i));
        }
        return c;
    }

    // GREAT of FIRST
    private static void firstGreat() {
        WalkBench x = new WalkBench();
        Check.steps(x, 0, -1, 1, 0, -1, 0, 2, 0, -2, 0);
        Check.holds("from", x.from(0, 1));
        Check.fine(x, "first(31), 4 to the power 30", x.first(31), GREAT / 4);
        for (int n = 32; n <= 60; n++) {
            Check.refused(x, "first(" + n + "), 4 to the power " + (n - 1), x.first(n), 9);
            Check.refused(x, "turnings(" + n + "), more than that", x.turnings(n), 9);
        }
        Check.steps(x, 0, -1, 1, -1, 2, -1, 3, -1, 1, 0, 1, 2);
        Check.holds("from", x.from(0, 14));
        Check.fine(x, "first(26), nearly GREAT", x.first(26), 4610624494711603200L);
        Check.refused(x, "turnings(26)", x.turnings(26), 9);
    }

    // GREAT of TURNINGS
    private static void turningsGreat() {
        WalkBench x = new WalkBench();
        Check.steps(x, 0, -1, 1, 0, 0, 1, 1, 1, 0, 2, 1, 2, 0, 3);
        Check.holds("from", x.from(0, 4));
        Check.fine(x, "turnings(32), nearly GREAT", x.turnings(32), 4611107326898934224L);
        for (int n = 33; n <= 60; n++) {
            Check.refused(x, "turnings(" + n + ")", x.turnings(n), 9);
        }
        Check.steps(x, 0, -1, 1, -1, 0, 1, 1, 1, 0, 2, 1, 2, 2, 2, 3, 2);
        Check.holds("from", x.from(0, 28));
        Check.refused(x, "turnings(39), hardly GREAT", x.turnings(39), 9);
        Check.holds("first(38) is told", x.first(38) > 0);
    }

    // "A FAMILY: 1 to 4 beginnings and as many ends .. told by numbers from 0 on"
    private static void familyIs1To4() {
        WalkBench x = new WalkBench();
        int[] wrong = {0, 5, -1, MAX, MIN};
        for (int many : wrong) {
            Check.refused(x, "family(" + many + ")", x.family(many), 2);
            Check.refused(x, "worth(), there is none", x.worth(), 8);
            Check.refused(x, "place(0, ..), there is none", x.place(0, true, 0, 0), 8);
        }
        for (int many = 1; many <= 4; many++) {
            Check.fine(x, "family(" + many + ")", x.family(many));
            Check.fine(x, "place of the last beginning", x.place(many - 1, false, 0, 0));
            Check.fine(x, "place of the last end", x.place(many - 1, true, 1, 1));
            Check.fine(x, "place of the first", x.place(0, false, 0, 0));
            Check.refused(x, "place of one more beginning", x.place(many, false, 0, 0), 8);
            Check.refused(x, "place of one more end", x.place(many, true, 0, 0), 8);
            Check.refused(x, "place(-1, ..)", x.place(-1, false, 0, 0), 8);
            Check.fine(x, "table(0, last)", x.table(0, many - 1), 2);
            Check.fine(x, "table(last, last)", x.table(many - 1, many - 1), 2);
            Check.refused(x, "table(0, many)", x.table(0, many), 8);
            Check.refused(x, "table(many, 0)", x.table(many, 0), 8);
            Check.refused(x, "table(-1, 0)", x.table(-1, 0), 8);
            Check.refused(x, "table(0, -1)", x.table(0, -1), 8);
        }
    }

    // "SQUARES (not BARRED)": a beginning or an end may be BARRED, but then it is not counted from or to
    private static void familyPlacesMayBeBarred() {
        WalkBench x = new WalkBench();
        Check.holds("family(2)", x.family(2) && x.bar(3, 3, true));
        Check.fine(x, "place of an end that is BARRED", x.place(1, true, 3, 3));
        Check.fine(x, "table(0, 0)", x.table(0, 0), 1);
        Check.fine(x, "table(1, 0)", x.table(1, 0), 1);
        Check.refused(x, "table(0, 1)", x.table(0, 1), 7);
        Check.refused(x, "table(1, 1)", x.table(1, 1), 7);
        Check.refused(x, "worth()", x.worth(), 7);
        Check.fine(x, "place of an end that is not", x.place(1, true, 2, 0));
        Check.fine(x, "place of a beginning that is BARRED", x.place(0, false, 3, 3));
        Check.refused(x, "table(0, 0)", x.table(0, 0), 7);
        Check.refused(x, "table(0, 1)", x.table(0, 1), 7);
        Check.fine(x, "table(1, 0)", x.table(1, 0), 1);
        Check.fine(x, "table(1, 1)", x.table(1, 1), 1);
        Check.refused(x, "worth()", x.worth(), 7);
        Check.holds("bar no more", x.bar(3, 3, false));
        Check.fine(x, "table(0, 0)", x.table(0, 0), 0);
        Check.fine(x, "worth()", x.worth(), 0);
    }

    // "by (1, 0) and (0, 1) alone, over SQUARES that are not BARRED, whatever KIND is"
    private static void familyGoesRightAndUpAlone() {
        WalkBench x = new WalkBench();
        Check.holds("family(1)", x.family(1) && x.kind(4, 1));
        Check.steps(x, -1, -1);
        Check.holds("from", x.from(0, 0) && x.place(0, false, -3, -3));
        int[][] ends = {{-3, -3, 1}, {-2, -3, 1}, {-3, -2, 1}, {-2, -2, 2}, {-4, -3, 0}, {-3, -4, 0}, {-4, -2, 0}, {-2, -4, 0},
            {-1, -2, 3}};
        for (int[] e : ends) {
            Check.holds("place", x.place(0, true, e[0], e[1]));
            Check.fine(x, "table(0, 0) to (" + e[0] + ", " + e[1] + ")", x.table(0, 0), e[2]);
        }
        Check.holds("bar", x.bar(-2, -3, true));
        Check.fine(x, "table(0, 0) over one SQUARE less", x.table(0, 0), 1);
        Check.holds("bar", x.bar(-2, -2, true));
        Check.fine(x, "table(0, 0) over two less", x.table(0, 0), 0);
        Check.holds("bar", x.bar(-2, -2, false) && x.bar(-4, -3, true) && x.bar(0, -3, true) && x.bar(-3, -1, true));
        Check.fine(x, "table(0, 0), what is BARRED beside is not looked at", x.table(0, 0), 1);
    }

    // "GREAT: a number of the TABLE above 20,000"
    private static void tableIsGreatAbove20000() {
        WalkBench x = new WalkBench();
        Check.holds("family(2)", x.family(2) && x.place(0, false, -30, -30) && x.place(1, false, 29, 29));
        int[][] ends = {{-27, 17, 19600}, {-27, 18, -1}, {30, -30, 1}, {30, -29, 61}, {-22, -22, 12870}, {-21, -22, -1},
            {-28, 30, 1891}, {30, 30, -1}};
        for (int[] e : ends) {
            Check.holds("place", x.place(0, true, e[0], e[1]) && x.place(1, true, 29, 29));
            Check.same("table(0, 0) to (" + e[0] + ", " + e[1] + ")", x.table(0, 0), e[2]);
            Check.same("its status()", x.status(), e[2] < 0 ? 9 : 0);
            Check.fine(x, "table(1, 1), of its own", x.table(1, 1), 1);
            Check.refused(x, "table(0, 1), GREAT by far", x.table(0, 1), 9);
            Check.refused(x, "worth(), one is GREAT", x.worth(), 9);
        }
        int[][] bars = {{-30, 4, -28, -30, -28, -29}, {-30, 4, -28, -29}};
        for (int i = 0; i < 2; i++) {
            WalkBench y = new WalkBench();
            Check.sheet(y, 0, bars[i]);
            Check.holds("wall", y.wall(0, bars[i].length / 2) == bars[i].length / 2 && y.family(1));
            Check.holds("place", y.place(0, false, -30, -30) && y.place(0, true, -27, 18));
            if (i == 0) {
                Check.fine(y, "table(0, 0), 20000", y.table(0, 0), 20000);
                Check.fine(y, "worth(), 20000", y.worth(), 20000);
            } else {
                Check.refused(y, "table(0, 0), 20001", y.table(0, 0), 9);
                Check.refused(y, "worth(), 20001", y.worth(), 9);
            }
        }
    }

    // "WORTH: its determinant"
    private static void worthOfOneToFour() {
        int[] due = {5, 5 * 5 - 10 * 1};
        WalkBench x = new WalkBench();
        for (int many = 1; many <= 2; many++) {
            Check.holds("family", x.family(many));
            for (int k = 0; k < many; k++) {
                Check.holds("place", x.place(k, false, -k, k) && x.place(k, true, 4 - k, 1 + k));
            }
            Check.fine(x, "worth() of " + many, x.worth(), due[many - 1]);
        }
        for (int many = 2; many <= 4; many++) {
            Check.holds("family", x.family(many));
            Check.fine(x, "worth() of " + many + " alike", x.worth(), 0);
            // each of its own SQUARE, told in order, and the first two told the other way round
            for (int k = 0; k < many; k++) {
                Check.holds("place", x.place(k, false, k, -k) && x.place(k, true, k, -k));
            }
            Check.fine(x, "worth() of " + many + " that stand", x.worth(), 1);
            Check.holds("place", x.place(0, true, 1, -1) && x.place(1, true, 0, 0));
            Check.fine(x, "worth() of " + many + ", two ends changed", x.worth(), -1);
        }
    }

    // the greatest WORTH, above and below 0: four numbers of the TABLE below 20,000 each
    private static void worthMayBeLarge() {
        WalkBench x = new WalkBench();
        Check.holds("family(4)", x.family(4));
        int[][] orders = {{0, 1, 2, 3}, {1, 0, 2, 3}, {3, 2, 1, 0}, {1, 2, 3, 0}};
        int[] signs = {1, -1, 1, -1};
        for (int i = 0; i < orders.length; i++) {
            for (int k = 0; k < 4; k++) {
                int to = orders[i][k];
                Check.holds("place", x.place(k, false, -30 + 9 * k, 20 - 9 * k) && x.place(k, true, -22 + 9 * to, 28 - 9 * to));
            }
            Check.fine(x, "worth() of four of 12870", x.worth(), signs[i] * 12870L * 12870 * 12870 * 12870);
        }
    }

    // "BOXES of a, b, c (0 to 6 each)"
    private static void boxesAre0To6() {
        WalkBench x = new WalkBench();
        Check.fine(x, "boxes(0, 0, 0)", x.boxes(0, 0, 0), 1);
        Check.fine(x, "boxes(6, 6, 6)", x.boxes(6, 6, 6), 1478619421136L);
        Check.fine(x, "boxes(0, 6, 6)", x.boxes(0, 6, 6), 1);
        Check.fine(x, "boxes(6, 0, 6)", x.boxes(6, 0, 6), 1);
        Check.fine(x, "boxes(6, 6, 0)", x.boxes(6, 6, 0), 1);
        Check.fine(x, "boxes(6, 1, 1)", x.boxes(6, 1, 1), 7);
        Check.fine(x, "boxes(1, 6, 1)", x.boxes(1, 6, 1), 7);
        Check.fine(x, "boxes(1, 1, 6)", x.boxes(1, 1, 6), 7);
        Check.fine(x, "boxes(6, 6, 1)", x.boxes(6, 6, 1), 924);
        Check.fine(x, "boxes(6, 1, 6)", x.boxes(6, 1, 6), 924);
        Check.fine(x, "boxes(1, 6, 6)", x.boxes(1, 6, 6), 924);
        int[] wrong = {7, -1, MAX, MIN};
        for (int v : wrong) {
            Check.refused(x, "boxes(" + v + ", 3, 3)", x.boxes(v, 3, 3), 2);
            Check.refused(x, "boxes(3, " + v + ", 3)", x.boxes(3, v, 3), 2);
            Check.refused(x, "boxes(3, 3, " + v + ")", x.boxes(3, 3, v), 2);
            Check.refused(x, "boxes(" + v + ", 0, 0)", x.boxes(v, 0, 0), 2);
        }
    }

    // "BRACKETS of n pairs (0 to 30)"
    private static void bracketsAreOf0To30() {
        WalkBench x = new WalkBench();
        int[] wrong = {-1, 31, MAX, MIN};
        for (int n : wrong) {
            Check.refused(x, "brackets(" + n + ", 0)", x.brackets(n, 0), 2);
        }
        Check.fine(x, "brackets(1, 0)", x.brackets(1, 0), 2);
        Check.shows(x, "brackets(1, 0)", "()");
        Check.refused(x, "brackets(1, 1)", x.brackets(1, 1), 8);
        Check.refused(x, "brackets(1, -1)", x.brackets(1, -1), 8);
        Check.fine(x, "brackets(0, 0)", x.brackets(0, 0), 0);
        Check.shows(x, "brackets(0, 0)", "");
        Check.refused(x, "brackets(0, 1)", x.brackets(0, 1), 8);
        Check.refused(x, "brackets(0, -1)", x.brackets(0, -1), 8);
        Check.fine(x, "brackets(30, 0)", x.brackets(30, 0), 60);
        Check.shows(x, "brackets(30, 0)", "(".repeat(30) + ")".repeat(30));
        Check.fine(x, "brackets(30, last)", x.brackets(30, 3814986502092303L), 60);
        Check.shows(x, "brackets(30, last)", "()".repeat(30));
        Check.refused(x, "brackets(30, last + 1)", x.brackets(30, 3814986502092304L), 8);
        Check.refused(x, "brackets(30, -1)", x.brackets(30, -1), 8);
        Check.refused(x, "brackets(30, MAX)", x.brackets(30, Long.MAX_VALUE), 8);
        Check.refused(x, "brackets(30, MIN)", x.brackets(30, Long.MIN_VALUE), 8);
    }

    // "words of n ( and n ) of which no beginning has more ) than ("
    private static void bracketsNeverCloseFirst() {
        WalkBench x = new WalkBench();
        int[][] none = {{1, 0}, {0, 1, 1, 0}, {0, 0, 1, 1, 1, 0}, {0, 0}, {1, 1}, {0, 1, 0, 0}, {0, 1, 1, 1}, {1, 0, 0, 1}};
        for (int[] word : none) {
            Check.sheet(x, 0, word);
            Check.refused(x, "order of none", x.order(0, word.length), 8);
        }
        int[][] numbers = {{2, 1}, {0, 2}, {-1, 1}, {0, -1}, {0, MAX}, {MIN, 1}, {'(', ')'}};
        for (int[] word : numbers) {
            Check.sheet(x, 0, word);
            Check.refused(x, "order of " + word[0] + ", " + word[1], x.order(0, 2), 8);
        }
        Check.sheet(x, 0, 0, 1, 1, 0);
        Check.fine(x, "order(0, 2), as far as it stands", x.order(0, 2), 0);
        Check.fine(x, "order(0, 0)", x.order(0, 0), 0);
        int[] deep = new int[64];
        for (int i = 30; i < 60; i++) {
            deep[i] = 1;
        }
        Check.sheet(x, 0, deep);
        Check.fine(x, "order(0, 60), 30 open", x.order(0, 60), 0);
        Check.refused(x, "order(0, 58), two open at its end", x.order(0, 58), 8);
        Check.refused(x, "order(0, 61)", x.order(0, 61), 2);
        Check.refused(x, "order(0, 62)", x.order(0, 62), 2);
        Check.holds("write", x.write(0, 29, 1));
        Check.refused(x, "order(0, 60), 29 of 31", x.order(0, 60), 8);
    }

    // "in order, ( ahead of ), numbered from 0"
    private static void bracketsAreInOrder() {
        WalkBench x = new WalkBench();
        String[] due = {"((()))", "(()())", "(())()", "()(())", "()()()"};
        for (int k = 0; k < due.length; k++) {
            Check.fine(x, "brackets(3, " + k + ")", x.brackets(3, k), 6);
            Check.shows(x, "brackets(3, " + k + ")", due[k]);
            int[] word = new int[6];
            for (int i = 0; i < 6; i++) {
                word[i] = due[k].charAt(i) == '(' ? 0 : 1;
            }
            Check.sheet(x, 2, word);
            Check.fine(x, "order of " + due[k], x.order(2, 6), k);
        }
        Check.refused(x, "brackets(3, 5)", x.brackets(3, 5), 8);
        Check.shows(x, "a refused one", due[4]);
    }

    // "walks of n STEPS of which dy alone is looked at, from the y of A to the y of B"
    private static void levelsLookAtDyAlone() {
        WalkBench x = new WalkBench();
        Check.steps(x, 3, 1, -3, 1, 1, -1);
        Check.holds("from and to", x.from(30, 0) && x.to(-30, 2));
        Check.fine(x, "far(0)", x.far(0), 0);
        Check.fine(x, "far(2), twice two ways up", x.far(2), 4);
        Check.fine(x, "far(4)", x.far(4), 8 * 3);
        Check.holds("bar", x.bar(30, 0, true) && x.bar(-30, 2, true) && x.bar(0, 1, true));
        Check.fine(x, "far(2), what is BARRED is not looked at", x.far(2), 4);
        for (int kind = 0; kind <= 4; kind++) {
            Check.holds("kind", x.kind(kind, kind == 2 ? 5 : kind == 4 ? 1 : 0));
            Check.fine(x, "far(2) in KIND " + kind, x.far(2), 4);
            Check.holds("rule() in KIND " + kind, x.rule() > 0);
        }
    }

    // "between 0 and TOP all along (both must be)"
    private static void levelsAreBetween0AndTop() {
        int[] tops = {0, 1, 2, 3, 30};
        for (int top : tops) {
            WalkBench x = new WalkBench();
            Check.steps(x, 0, 1, 0, -1);
            Check.holds("kind", x.kind(2, top) && x.from(0, 0) && x.to(0, top));
            Check.fine(x, "far(TOP) from 0 to TOP " + top, x.far(top), 1);
            Check.fine(x, "far(TOP + 1)", x.far(top + 1), 0);
            Check.fine(x, "far(TOP + 2)", x.far(top + 2), Math.max(0, top));
            Check.holds("to", x.to(0, 0));
            Check.fine(x, "far(2) at 0", x.far(2), top == 0 ? 0 : 1);
            Check.holds("from and to", x.from(0, top) && x.to(0, top));
            Check.fine(x, "far(2) at TOP", x.far(2), top == 0 ? 0 : 1);
            Check.holds("from", x.from(0, -1));
            Check.refused(x, "far(1), A at -1", x.far(1), 7);
            Check.refused(x, "rule(), A at -1", x.rule(), 7);
            Check.holds("from and to", x.from(0, 0) && x.to(0, -1));
            Check.refused(x, "far(1), B at -1", x.far(1), 7);
            Check.refused(x, "rule(), B at -1", x.rule(), 7);
            if (top < 30) {
                Check.holds("to", x.to(0, top + 1));
                Check.refused(x, "far(1), B at TOP + 1", x.far(1), 7);
                Check.refused(x, "rule(), B at TOP + 1", x.rule(), 7);
                Check.holds("from and to", x.from(0, top + 1) && x.to(0, 0));
                Check.refused(x, "far(1), A at TOP + 1", x.far(1), 7);
                Check.refused(x, "rule(), A at TOP + 1", x.rule(), 7);
            }
        }
        WalkBench x = new WalkBench();
        Check.steps(x, 0, 3, 0, -3);
        Check.holds("kind", x.kind(2, 3) && x.to(0, 3));
        Check.fine(x, "far(1) by 3 to TOP", x.far(1), 1);
        Check.holds("kind", x.kind(2, 2) && x.to(0, 0));
        Check.fine(x, "far(2) by 3 over TOP", x.far(2), 0);
    }

    // "as rests by 998,244,353"
    private static void levelsAreRests() {
        WalkBench x = new WalkBench();
        Check.steps(x, 1, 0, 2, 0, 3, 0);
        Check.holds("kind", x.kind(2, 0));
        Check.fine(x, "far(18), 3 to the power 18", x.far(18), 387420489);
        Check.fine(x, "far(19), less the prime", x.far(19), 1162261467 - PRIME);
        Check.fine(x, "far of half the prime, the greatest rest", x.far(PRIME / 2), PRIME - 1);
        Check.fine(x, "far of the prime less 1", x.far(PRIME - 1), 1);
        Check.fine(x, "far of the prime", x.far(PRIME), 3);
        // below TOP 3 these are the Fibonacci numbers; the prime goes into that of the prime and 1
        Check.steps(x, 0, 1, 0, -1);
        Check.holds("kind", x.kind(2, 3) && x.to(0, 2));
        Check.fine(x, "far(44), 701408733", x.far(44), 701408733);
        Check.fine(x, "far(46), 1836311903 less the prime", x.far(46), 1836311903 - PRIME);
        Check.fine(x, "far of the prime and 1", x.far(PRIME + 1L), 0);
        Check.fine(x, "far of the prime and 3", x.far(PRIME + 3L), PRIME - 1);
    }

    // "far(long n)", n 0 or more
    private static void levelsOfTheGreatestN() {
        WalkBench x = new WalkBench();
        Check.steps(x, 1, 0, 2, 0);
        Check.holds("kind", x.kind(2, 0));
        long[] lengths = {0, 1, 61, 62, 63, 64, 65, 1000, Integer.MAX_VALUE, 1L << 31, 1L << 32, 1L << 62, Long.MAX_VALUE - 1, Long.MAX_VALUE};
        for (long n : lengths) {
            long due = BigInteger.TWO.modPow(BigInteger.valueOf(n), BigInteger.valueOf(PRIME)).longValueExact();
            Check.fine(x, "far(" + n + ")", x.far(n), due);
        }
        long[] wrong = {-1, -2, Integer.MIN_VALUE, -1L << 32, Long.MIN_VALUE, Long.MIN_VALUE + 1};
        for (long n : wrong) {
            Check.refused(x, "far(" + n + ")", x.far(n), 2);
        }
    }

    // "the least d": 0, where no walks are
    private static void ruleMayBeEmpty() {
        WalkBench x = new WalkBench();
        Check.fine(x, "rule() of some", x.rule() > 0);
        Check.steps(x, 0, 1);
        Check.holds("from and to", x.from(0, 3) && x.to(0, 2));
        Check.fine(x, "rule() of none", x.rule(), 0);
        Check.refused(x, "part(0)", x.part(0), 8);
        Check.refused(x, "part(1)", x.part(1), 8);
        Check.refused(x, "part(-1)", x.part(-1), 8);
        Check.fine(x, "far(0)", x.far(0), 0);
        Check.fine(x, "far(MAX)", x.far(Long.MAX_VALUE), 0);
    }

    // "numbers c 1 to c d (0 to 998,244,352)"
    private static void ruleMayEndIn0() {
        WalkBench x = new WalkBench();
        Check.steps(x, 0, 1);
        // one alone of LEVELS is 1, that of n 5: d is 6 and each part 0
        Check.holds("to", x.to(0, 5));
        Check.fine(x, "rule() of one alone", x.rule(), 6);
        for (int k = 1; k <= 6; k++) {
            Check.fine(x, "part(k)", x.part(k), 0);
        }
        Check.refused(x, "part(7)", x.part(7), 8);
        // from 0 to 0 below TOP 3: every other Fibonacci number, three times the last less the one ahead
        Check.steps(x, 0, 1, 0, -1);
        Check.holds("kind", x.kind(2, 3) && x.to(0, 0));
        Check.fine(x, "rule() of 1, 0, 1, 0, 2, 0, 5", x.rule(), 4);
        Check.fine(x, "part(1)", x.part(1), 0);
        Check.fine(x, "part(2)", x.part(2), 3);
        Check.fine(x, "part(3)", x.part(3), 0);
        Check.fine(x, "part(4), the greatest rest", x.part(4), PRIME - 1);
    }

    // d is no greater than there are lines
    private static void ruleMayBe31Long() {
        WalkBench x = new WalkBench();
        Check.steps(x, 0, 1, 0, -1);
        Check.holds("kind", x.kind(2, 30));
        Check.fine(x, "rule() below TOP 30", x.rule(), 31);
        // the parts of a path's polynomial: 31 less j over j, in turn above and below 0, and between them 0
        for (int k = 1; k <= 31; k++) {
            long due = k % 2 == 1 ? 0 : choose(31 - k / 2, k / 2).longValueExact() * (k / 2 % 2 == 1 ? 1 : -1);
            Check.fine(x, "part(" + k + ")", x.part(k), Math.floorMod(due, PRIME));
        }
        Check.refused(x, "part(32)", x.part(32), 8);
        Check.refused(x, "part(0)", x.part(0), 8);
        for (int n = 58; n <= 66; n++) {
            long due = n % 2 == 1 ? 0 : below30(n);
            Check.fine(x, "far(" + n + ")", x.far(n), due);
        }
    }

    /** Walks of n between 0 and 30 from 0 to 0, as a rest, line by line. */
    private static long below30(int n) {
        BigInteger[] now = new BigInteger[33];
        java.util.Arrays.fill(now, BigInteger.ZERO);
        now[1] = BigInteger.ONE;
        for (int i = 0; i < n; i++) {
            BigInteger[] then = new BigInteger[33];
            java.util.Arrays.fill(then, BigInteger.ZERO);
            for (int h = 1; h <= 31; h++) {
                then[h] = now[h - 1].add(now[h + 1]);
            }
            now = then;
        }
        return now[1].mod(BigInteger.valueOf(PRIME)).longValueExact();
    }

    // "the least d .. of all n from d on"
    private static void ruleHasTheLeastLength() {
        WalkBench x = new WalkBench();
        Check.steps(x, 1, 0, 2, 0);
        Check.holds("kind", x.kind(2, 0));
        Check.fine(x, "rule() of 1, 2, 4, 8", x.rule(), 1);
        Check.fine(x, "part(1)", x.part(1), 2);
        // 0, 1, 0, 2, 0, 4: from n 2 on
        Check.steps(x, 0, 1, 0, -1);
        Check.holds("kind", x.kind(2, 2) && x.to(0, 1));
        Check.fine(x, "rule() of 0, 1, 0, 2", x.rule(), 2);
        Check.fine(x, "part(2)", x.part(2), 2);
        // 1, 0, 1, 0, 2, 0, 4: twice the last but one, but from n 3 on alone, so c 3 is 0
        Check.holds("to", x.to(0, 0));
        Check.fine(x, "rule() of 1, 0, 1, 0, 2", x.rule(), 3);
        Check.fine(x, "part(1)", x.part(1), 0);
        Check.fine(x, "part(2)", x.part(2), 2);
        Check.fine(x, "part(3)", x.part(3), 0);
        Check.refused(x, "part(4)", x.part(4), 8);
    }

    private static WalkBench powers(int many) {
        WalkBench x = new WalkBench();
        Check.holds("kind(4, 1)", x.kind(4, 1));
        int[] all = {1, 0, -1, 0, 2, 0, -2, 0, 3, 0, -3, 0};
        int[] some = new int[2 * many];
        System.arraycopy(all, 0, some, 0, 2 * many);
        Check.steps(x, some);
        return x;
    }

    private static long drawn(BigInteger count, int seed) {
        BigInteger s = BigInteger.valueOf(seed);
        for (int tries = 0; tries < 64; tries++) {
            BigInteger number = BigInteger.ZERO;
            for (int i = 0; i < 5; i++) {
                s = s.multiply(BigInteger.valueOf(1103515245)).add(BigInteger.valueOf(12345)).mod(BigInteger.TWO.pow(31));
                number = number.shiftLeft(15).add(s.shiftRight(16).mod(BigInteger.TWO.pow(15)));
            }
            int bits = count.subtract(BigInteger.ONE).bitLength();
            number = number.mod(BigInteger.TWO.pow(62)).mod(BigInteger.TWO.pow(bits));
            if (number.compareTo(count) < 0) {
                return number.longValueExact();
            }
        }
        throw new IllegalStateException("64 numbers in vain");
    }

    // "from a seed s": 0 or more
    private static void drawnFromTheLeastAndTheGreatestSeed() {
        WalkBench x = powers(3);
        int[] seeds = {0, 1, 2, 65535, 65536, MAX - 1, MAX};
        for (int seed : seeds) {
            Check.fine(x, "draw(7, " + seed + ")", x.draw(7, seed), drawn(BigInteger.valueOf(2187), seed));
            Check.fine(x, "draw(39, " + seed + ")", x.draw(39, seed), drawn(BigInteger.valueOf(3).pow(39), seed));
        }
        int[] wrong = {-1, -2, MIN};
        for (int seed : wrong) {
            Check.refused(x, "draw(7, " + seed + ")", x.draw(7, seed), 2);
        }
        Check.refused(x, "draw(61, 1)", x.draw(61, 1), 2);
        Check.refused(x, "draw(-1, 1)", x.draw(-1, 1), 2);
        x = powers(1);
        Check.fine(x, "draw(60, 1)", x.draw(60, 1), 0);
        Check.refused(x, "draw(61, 1)", x.draw(61, 1), 2);
    }

    // "of these to as many as the count less 1 has": none of 1, 60 of 2 to the power 60
    private static void drawnHasAsManyBitsAsTheCountLess1() {
        WalkBench x = powers(1);
        for (int seed = 0; seed < 10; seed++) {
            Check.fine(x, "draw of one", x.draw(5, seed), 0);
        }
        x = powers(2);
        for (int n = 0; n <= 60; n++) {
            Check.fine(x, "draw of 2 to the power " + n, x.draw(n, 77 + n), drawn(BigInteger.TWO.pow(n), 77 + n));
        }
        x = powers(4);
        Check.fine(x, "draw of 4 to the power 30", x.draw(30, 3), drawn(BigInteger.TWO.pow(60), 3));
        Check.refused(x, "draw of 4 to the power 31", x.draw(31, 3), 9);
    }

    // "till one is below the count": of 62 bits too, and after many in vain (no seed has more than 30, so none has 64)
    private static void drawnIsBelowTheCount() {
        WalkBench x = powers(3);
        int[] inVain = {310036, 21530, 12873, 12696, 673, 7, 2, 0};
        for (int seed : inVain) {
            Check.fine(x, "draw of 531441 from " + seed, x.draw(12, seed), drawn(BigInteger.valueOf(531441), seed));
        }
        for (int seed = 0; seed < 50; seed++) {
            Check.fine(x, "draw of 3 to the power 39", x.draw(39, seed), drawn(BigInteger.valueOf(3).pow(39), seed));
            Check.fine(x, "draw of 3", x.draw(1, seed), drawn(BigInteger.valueOf(3), seed));
        }
        // of 3, 4 and 5 as well: the last of two bits, all of them, and the first of three bits
        x = new WalkBench();
        Check.steps(x, 1, 0, 0, 1);
        for (int many = 2; many <= 6; many++) {
            Check.holds("to", x.to(many - 1, 1));
            Check.fine(x, "count(" + many + ")", x.count(many), many);
            for (int seed = 0; seed < 20; seed++) {
                Check.fine(x, "draw of " + many, x.draw(many, seed), drawn(BigInteger.valueOf(many), seed));
            }
        }
    }
}
