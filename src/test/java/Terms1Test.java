/**
 * Terms 1, sentence by sentence: SHEETS, SQUARES, STEPS, KINDS, WALKS, WEIGHTS and GREAT, each at its boundaries.
 * The sentence that a test holds stands above it.
 */
public final class Terms1Test {
    private static final int MIN = Integer.MIN_VALUE;
    private static final int MAX = Integer.MAX_VALUE;
    private static final long GREAT = 1L << 62;

    private Terms1Test() {
    }

    public static void main(String[] args) {
        sheetsAreNumbered0To3();
        sheetsAreMissingAtFirst();
        rowsMayBeEmpty();
        rowsMayBeFull();
        numbersAreCut();
        whatIsWrittenIsCutForEveryCall();
        squaresAreFromMinus30To30();
        stepsAre1To8();
        stepsAreFromMinus3To3();
        stepsAreNotBoth0();
        noTwoStepsAreAlike();
        atFirstThereAreFourSteps();
        toldWeightsAre0To9();
        kindWalkIsAllSquares();
        kindHalfIsFrom0Up();
        kindStripIsFrom0ToTop();
        topIs5AtFirst();
        kindCornerIsFrom0Both();
        kindRingIsFrom0ToRoundLess1();
        ringSumsAreRests();
        ringSumsAreRestsForEveryCall();
        ringHasNoRestOfY();
        openIsNotBarred();
        walkOfNoSteps();
        endsAreOpen();
        walkIsOpenAllAlong();
        walksAreInOrder();
        touchesLeaveOutTheFirst();
        turnsAreOfAnotherStep();
        areaLeavesOutTheFirst();
        areaIsOfThreeKinds();
        toldWeightsAreAdded();
        greatIsTwoToThe62();
        greatAllAreTwoToThe62();
        greatIsAskedOfTheAnswerAlone();
        greatStaysGreat();
        greatStaysGreatFromEverywhere();
        Check.end();
    }

    // "SHEETS, 0 to 3"
    private static void sheetsAreNumbered0To3() {
        int[] none = {-1, 4, MIN, MAX};
        for (int s : none) {
            WalkBench x = new WalkBench();
            Check.sheet(x, 0, 0, 1);
            Check.refused(x, "sheet(" + s + ", 0, 1)", x.sheet(s, 0, 1), 1);
            Check.refused(x, "write(" + s + ", 0, 1)", x.write(s, 0, 1), 1);
            Check.refused(x, "read(" + s + ", 0)", x.read(s, 0), 1);
            Check.refused(x, "pour(" + s + ", 0, 0, 0, 1)", x.pour(s, 0, 0, 0, 1), 1);
            Check.refused(x, "pour(0, 0, " + s + ", 0, 1)", x.pour(0, 0, s, 0, 1), 1);
            Check.refused(x, "steps(" + s + ", 1)", x.steps(s, 1), 1);
            Check.refused(x, "wall(" + s + ", 1)", x.wall(s, 1), 1);
            Check.refused(x, "number(" + s + ", 0)", x.number(s, 0), 1);
            Check.refused(x, "order(" + s + ", 0)", x.order(s, 0), 1);
        }
        WalkBench x = new WalkBench();
        for (int s = 0; s <= 3; s++) {
            Check.sheet(x, s, s, 1, 0, 1);
        }
        for (int s = 0; s <= 3; s++) {
            Check.fine(x, "read(" + s + ", 0)", x.read(s, 0), s);
            Check.fine(x, "pour(" + s + ", 1, 3, 3, 1)", x.pour(s, 1, 3, 3, 1));
            Check.fine(x, "pour(3, 3, " + s + ", 3, 1)", x.pour(3, 3, s, 3, 1));
            Check.fine(x, "number(" + s + ", 0)", x.number(s, 0), 0);
            Check.fine(x, "order(" + s + ", 0)", x.order(s, 0), 0);
            Check.fine(x, "wall(" + s + ", 0)", x.wall(s, 0), 0);
            Check.fine(x, "steps(" + s + ", 1)", x.steps(s, 1));
            Check.fine(x, "step(0, 0) of SHEET " + s, x.step(0, 0), s);
        }
    }

    // "are MISSING at first"
    private static void sheetsAreMissingAtFirst() {
        for (int s = 0; s <= 3; s++) {
            WalkBench x = new WalkBench();
            int other = (s + 1) % 4;
            Check.sheet(x, other, 1, 0);
            Check.refused(x, "read(" + s + ", 0)", x.read(s, 0), 3);
            Check.refused(x, "write(" + s + ", 0, 1)", x.write(s, 0, 1), 3);
            Check.refused(x, "pour from " + s, x.pour(s, 0, other, 0, 0), 3);
            Check.refused(x, "pour to " + s, x.pour(other, 0, s, 0, 0), 3);
            Check.refused(x, "pour within " + s, x.pour(s, 0, s, 0, 0), 3);
            Check.refused(x, "steps(" + s + ", 1)", x.steps(s, 1), 3);
            Check.refused(x, "wall(" + s + ", 0)", x.wall(s, 0), 3);
            Check.refused(x, "number(" + s + ", 0)", x.number(s, 0), 3);
            Check.refused(x, "order(" + s + ", 0)", x.order(s, 0), 3);
        }
    }

    // "or rows of numbers": a row of none is a row, not MISSING
    private static void rowsMayBeEmpty() {
        for (int sort = 0; sort <= 2; sort++) {
            WalkBench x = new WalkBench();
            Check.fine(x, "sheet(1, sort, 0)", x.sheet(1, sort, 0));
            Check.refused(x, "read(1, 0)", x.read(1, 0), 4);
            Check.refused(x, "read(1, -1)", x.read(1, -1), 4);
            Check.refused(x, "write(1, 0, 5)", x.write(1, 0, 5), 4);
            Check.fine(x, "pour(1, 0, 1, 0, 0)", x.pour(1, 0, 1, 0, 0));
            Check.refused(x, "pour(1, 0, 1, 0, 1)", x.pour(1, 0, 1, 0, 1), 4);
            Check.refused(x, "steps(1, 1)", x.steps(1, 1), 4);
            Check.fine(x, "wall(1, 0)", x.wall(1, 0), 0);
            Check.refused(x, "wall(1, 1)", x.wall(1, 1), 4);
            Check.fine(x, "number(1, 0)", x.number(1, 0), 0);
            Check.refused(x, "number(1, 1)", x.number(1, 1), 4);
            Check.fine(x, "order(1, 0)", x.order(1, 0), 0);
            Check.refused(x, "order(1, 2)", x.order(1, 2), 4);
            // one that was full is empty when it is told so
            Check.fine(x, "sheet(1, sort, 64)", x.sheet(1, sort, 64));
            Check.fine(x, "sheet(1, sort, 0) again", x.sheet(1, sort, 0));
            Check.refused(x, "read(1, 0) again", x.read(1, 0), 4);
        }
    }

    // "rows of numbers": 64 at most, all of them are written, read, poured and used
    private static void rowsMayBeFull() {
        for (int sort = 0; sort <= 2; sort++) {
            WalkBench x = new WalkBench();
            Check.fine(x, "sheet(2, sort, 64)", x.sheet(2, sort, 64));
            for (int i = 0; i < 64; i++) {
                Check.fine(x, "write(2, " + i + ")", x.write(2, i, i % 2 == 0 ? i / 2 - 1 : 5));
            }
            Check.fine(x, "read(2, 0)", x.read(2, 0), -1);
            Check.fine(x, "read(2, 63)", x.read(2, 63), 5);
            Check.refused(x, "read(2, 64)", x.read(2, 64), 4);
            Check.refused(x, "write(2, 64, 1)", x.write(2, 64, 1), 4);
            Check.fine(x, "sheet(3, sort, 64)", x.sheet(3, sort, 64));
            Check.fine(x, "pour(2, 0, 3, 0, 64)", x.pour(2, 0, 3, 0, 64));
            Check.fine(x, "read(3, 0)", x.read(3, 0), -1);
            Check.fine(x, "read(3, 62)", x.read(3, 62), 30);
            Check.fine(x, "read(3, 63)", x.read(3, 63), 5);
            Check.refused(x, "pour(2, 0, 3, 0, 65)", x.pour(2, 0, 3, 0, 65), 4);
            Check.refused(x, "pour(2, 1, 3, 0, 64)", x.pour(2, 1, 3, 0, 64), 4);
            Check.refused(x, "pour(2, 0, 3, 1, 64)", x.pour(2, 0, 3, 1, 64), 4);
            Check.fine(x, "pour(2, 63, 3, 0, 1)", x.pour(2, 63, 3, 0, 1));
            Check.fine(x, "read(3, 0)", x.read(3, 0), 5);
            Check.fine(x, "wall(2, 32), 32 SQUARES in a row of 64", x.wall(2, 32), 32);
            Check.refused(x, "wall(2, 33)", x.wall(2, 33), 4);
        }
    }

    // "of 8 bits (sort 0), 16 (1) or 32 (2), with sign; what is written is cut to these"
    private static void numbersAreCut() {
        int[][] cut = {
            {0, 127, 127}, {0, 128, -128}, {0, 129, -127}, {0, 255, -1}, {0, 256, 0}, {0, 383, 127}, {0, 384, -128},
            {0, -1, -1}, {0, -128, -128}, {0, -129, 127}, {0, -256, 0}, {0, 0x12345678, 0x78}, {0, 0x1234FF80, -128},
            {0, MAX, -1}, {0, MIN, 0}, {0, 32768, 0},
            {1, 127, 127}, {1, 128, 128}, {1, -129, -129}, {1, 32767, 32767}, {1, 32768, -32768}, {1, 65535, -1}, {1, 65536, 0},
            {1, -1, -1}, {1, -32768, -32768}, {1, -32769, 32767}, {1, 0x12345678, 0x5678}, {1, 0x12348000, -32768},
            {1, MAX, -1}, {1, MIN, 0},
            {2, 127, 127}, {2, 128, 128}, {2, 32768, 32768}, {2, -32769, -32769}, {2, 65536, 65536},
            {2, MAX, MAX}, {2, MIN, MIN}, {2, -1, -1}, {2, 0, 0},
        };
        WalkBench x = new WalkBench();
        for (int sort = 0; sort <= 2; sort++) {
            Check.holds("sheet(" + sort + ", " + sort + ", 3)", x.sheet(sort, sort, 3));
        }
        for (int[] row : cut) {
            Check.fine(x, "write of " + row[1] + " to sort " + row[0], x.write(row[0], 1, row[1]));
            Check.fine(x, "read of " + row[1] + " in sort " + row[0], x.read(row[0], 1), row[2]);
            Check.same("the place ahead", x.read(row[0], 0), 0);
            Check.same("the place behind", x.read(row[0], 2), 0);
        }
    }

    // "what is written is cut to these": what is read by steps, wall, number, order and pour is the cut one
    private static void whatIsWrittenIsCutForEveryCall() {
        for (int sort = 0; sort <= 1; sort++) {
            int more = sort == 0 ? 256 : 65536;
            WalkBench x = new WalkBench();
            Check.holds("sheet", x.sheet(0, sort, 2) && x.sheet(1, sort, 2));
            Check.holds("write", x.write(0, 0, more - 3) && x.write(0, 1, 5 * more + 3));
            Check.fine(x, "wall(0, 1)", x.wall(0, 1), 1);
            Check.fine(x, "open(-3, 3)", x.open(-3, 3), 0);
            Check.fine(x, "pour(0, 0, 1, 0, 2)", x.pour(0, 0, 1, 0, 2));
            Check.fine(x, "read(1, 0)", x.read(1, 0), -3);
            Check.holds("write", x.write(1, 0, -2 * more) && x.write(1, 1, 3 * more + 1));
            Check.fine(x, "order(1, 2)", x.order(1, 2), 0);
            Check.holds("to", x.to(1, 1));
            Check.fine(x, "number(1, 2)", x.number(1, 2), 0);
            Check.fine(x, "steps(0, 1)", x.steps(0, 1));
            Check.fine(x, "step(0, 0)", x.step(0, 0), -3);
            Check.fine(x, "step(0, 1)", x.step(0, 1), 3);
        }
        WalkBench x = new WalkBench();
        Check.sheet(x, 0, 256 - 3, 3);
        Check.refused(x, "steps of what is not cut", x.steps(0, 1), 2);
        Check.refused(x, "wall of what is not cut", x.wall(0, 1), 2);
        Check.sheet(x, 0, 256, 257);
        Check.refused(x, "order of what is not cut", x.order(0, 2), 8);
        Check.refused(x, "number of what is not cut", x.number(0, 2), 8);
    }

    // "SQUARES (x, y) have x and y from -30 to 30"
    private static void squaresAreFromMinus30To30() {
        int[][] squares = {{30, 0}, {-30, 0}, {0, 30}, {0, -30}, {30, 30}, {-30, 30}, {30, -30}, {-30, -30}};
        int[][] none = {{31, 0}, {-31, 0}, {0, 31}, {0, -31}, {31, 31}, {-31, -31}, {30, 31}, {-31, -30},
            {MAX, 0}, {MIN, 0}, {0, MAX}, {0, MIN}};
        WalkBench x = new WalkBench();
        Check.holds("family(1)", x.family(1));
        for (int[] s : squares) {
            String at = "(" + s[0] + ", " + s[1] + ")";
            Check.fine(x, "open" + at, x.open(s[0], s[1]), 1);
            Check.fine(x, "from" + at, x.from(s[0], s[1]));
            Check.fine(x, "to" + at, x.to(s[0], s[1]));
            Check.fine(x, "count(0)", x.count(0), 1);
            Check.fine(x, "place" + at, x.place(0, false, s[0], s[1]) && x.place(0, true, s[0], s[1]));
            Check.fine(x, "table(0, 0)", x.table(0, 0), 1);
            Check.fine(x, "bar" + at, x.bar(s[0], s[1], true));
            Check.fine(x, "open" + at + ", BARRED", x.open(s[0], s[1]), 0);
            Check.fine(x, "bar" + at + " no more", x.bar(s[0], s[1], false));
            Check.sheet(x, 0, s);
            Check.fine(x, "wall of" + at, x.wall(0, 1), 1);
            Check.fine(x, "open" + at + ", BARRED by wall", x.open(s[0], s[1]), 0);
        }
        x = new WalkBench();
        Check.holds("family(1)", x.family(1));
        for (int[] s : none) {
            String at = "(" + s[0] + ", " + s[1] + ")";
            Check.refused(x, "open" + at, x.open(s[0], s[1]), 2);
            Check.refused(x, "from" + at, x.from(s[0], s[1]), 2);
            Check.refused(x, "to" + at, x.to(s[0], s[1]), 2);
            Check.refused(x, "bar" + at, x.bar(s[0], s[1], true), 2);
            Check.refused(x, "bar" + at + " no more", x.bar(s[0], s[1], false), 2);
            Check.refused(x, "place of beginning" + at, x.place(0, false, s[0], s[1]), 2);
            Check.refused(x, "place of end" + at, x.place(0, true, s[0], s[1]), 2);
            Check.sheet(x, 0, 0, 0, s[0], s[1]);
            Check.refused(x, "wall of" + at, x.wall(0, 2), 2);
        }
        Check.fine(x, "count(0), all is as it was", x.count(0), 1);
        Check.fine(x, "table(0, 0), all is as it was", x.table(0, 0), 1);
    }

    // "STEPS (dx, dy), 1 to 8, numbered as told"
    private static void stepsAre1To8() {
        int[] eight = {1, 0, 0, 1, -1, 0, 0, -1, 1, 1, -1, 1, 1, -1, -1, -1, 2, 2};
        WalkBench x = new WalkBench();
        Check.sheet(x, 0, eight);
        Check.refused(x, "steps(0, 0)", x.steps(0, 0), 2);
        Check.refused(x, "steps(0, 9)", x.steps(0, 9), 2);
        Check.refused(x, "steps(0, -1)", x.steps(0, -1), 2);
        Check.refused(x, "step(4, 0), four as before", x.step(4, 0), 8);
        for (int many = 8; many >= 1; many -= 7) {
            Check.fine(x, "steps(0, " + many + ")", x.steps(0, many));
            Check.fine(x, "all(1)", x.all(1), many);
            for (int k = 0; k < many; k++) {
                Check.fine(x, "step(k, 0)", x.step(k, 0), eight[2 * k]);
                Check.fine(x, "step(k, 1)", x.step(k, 1), eight[2 * k + 1]);
            }
            Check.refused(x, "step beyond", x.step(many, 0), 8);
        }
    }

    // "each from -3 to 3"
    private static void stepsAreFromMinus3To3() {
        int[][] good = {{3, 0}, {-3, 0}, {0, 3}, {0, -3}, {3, 3}, {-3, -3}, {3, -3}, {-3, 3}};
        int[][] wrong = {{4, 0}, {-4, 0}, {0, 4}, {0, -4}, {4, 4}, {3, 4}, {-4, -3}, {MAX, 1}, {MIN, 1}, {1, MAX}, {1, MIN}};
        WalkBench x = new WalkBench();
        for (int[] s : good) {
            Check.sheet(x, 0, s);
            Check.fine(x, "steps of (" + s[0] + ", " + s[1] + ")", x.steps(0, 1));
            Check.holds("to", x.to(s[0], s[1]));
            Check.fine(x, "count(1) by (" + s[0] + ", " + s[1] + ")", x.count(1), 1);
        }
        for (int[] s : wrong) {
            Check.sheet(x, 0, 1, 0, s[0], s[1]);
            Check.refused(x, "steps of (" + s[0] + ", " + s[1] + ")", x.steps(0, 2), 2);
            Check.fine(x, "steps of the one ahead", x.steps(0, 1));
        }
    }

    // "not both 0"
    private static void stepsAreNotBoth0() {
        WalkBench x = new WalkBench();
        Check.sheet(x, 0, 0, 1, 1, 0, 0, 0);
        Check.fine(x, "steps(0, 2), one of the two is 0", x.steps(0, 2));
        Check.refused(x, "steps(0, 3), both are 0", x.steps(0, 3), 2);
        Check.sheet(x, 0, 0, 0, 1, 0);
        Check.refused(x, "steps(0, 1), both are 0", x.steps(0, 1), 2);
        Check.refused(x, "steps(0, 2), the first are 0", x.steps(0, 2), 2);
    }

    // "no two alike"
    private static void noTwoStepsAreAlike() {
        int[] eight = {1, 2, 2, 1, -1, 2, 1, -2, -1, -2, -2, 1, 2, -1, 0, 3};
        WalkBench x = new WalkBench();
        Check.sheet(x, 0, eight);
        Check.fine(x, "steps(0, 8), none alike", x.steps(0, 8));
        for (int k = 0; k < 7; k++) {
            Check.holds("write", x.write(0, 14, eight[2 * k]) && x.write(0, 15, eight[2 * k + 1]));
            Check.refused(x, "steps(0, 8), the last as STEP " + k, x.steps(0, 8), 2);
        }
        Check.fine(x, "steps(0, 7), without the last", x.steps(0, 7));
        Check.sheet(x, 0, 1, 2, 1, 2, 3, 3);
        Check.refused(x, "steps(0, 3), the first two alike", x.steps(0, 3), 2);
    }

    // "at first there are four: (1, 0), (0, 1), (-1, 0), (0, -1)"
    private static void atFirstThereAreFourSteps() {
        WalkBench x = new WalkBench();
        int[][] four = {{1, 0}, {0, 1}, {-1, 0}, {0, -1}};
        for (int k = 0; k < 4; k++) {
            Check.fine(x, "step(k, 0)", x.step(k, 0), four[k][0]);
            Check.fine(x, "step(k, 1)", x.step(k, 1), four[k][1]);
            Check.holds("to", x.to(four[k][0], four[k][1]));
            Check.fine(x, "walk(1, 0)", x.walk(1, 0), 1);
            Check.same("out(0)", x.out(0), '0' + k);
        }
        Check.refused(x, "step(-1, 0)", x.step(-1, 0), 8);
        Check.refused(x, "step(4, 0)", x.step(4, 0), 8);
        Check.fine(x, "all(1)", x.all(1), 4);
    }

    // "Each has a TOLD weight from 0 to 9 (at first 1)"
    private static void toldWeightsAre0To9() {
        WalkBench x = new WalkBench();
        for (int k = 0; k < 4; k++) {
            Check.fine(x, "step(k, 2) at first", x.step(k, 2), 1);
            Check.fine(x, "told(k, 0)", x.told(k, 0));
            Check.fine(x, "step(k, 2)", x.step(k, 2), 0);
            Check.fine(x, "told(k, 9)", x.told(k, 9));
            Check.refused(x, "told(k, 10)", x.told(k, 10), 2);
            Check.refused(x, "told(k, -1)", x.told(k, -1), 2);
            Check.refused(x, "told(k, MAX)", x.told(k, MAX), 2);
            Check.refused(x, "told(k, MIN)", x.told(k, MIN), 2);
            Check.fine(x, "step(k, 2) as it was", x.step(k, 2), 9);
        }
        Check.fine(x, "best(3, 2, true)", x.best(3, 2, true), 18);
        Check.steps(x, 1, 0, 0, 1, -1, 0, 0, -1, 3, 3, -3, -3, 2, 2, -2, -2);
        for (int k = 0; k < 8; k++) {
            Check.fine(x, "step(k, 2) of new STEPS", x.step(k, 2), 1);
            Check.fine(x, "told(k, k + 1)", x.told(k, k + 1));
            Check.fine(x, "step(k, 2)", x.step(k, 2), k + 1);
        }
    }

    // "0 WALK: all SQUARES"
    private static void kindWalkIsAllSquares() {
        int[][] edges = {{30, 0, 3}, {-30, 0, 3}, {0, 30, 3}, {0, -30, 3}, {30, 30, 2}, {-30, 30, 2}, {30, -30, 2}, {-30, -30, 2},
            {29, 29, 4}, {-29, -29, 4}};
        WalkBench x = new WalkBench();
        for (int[] e : edges) {
            Check.holds("from", x.from(e[0], e[1]) && x.to(e[0], e[1]));
            Check.fine(x, "all(1) from (" + e[0] + ", " + e[1] + ")", x.all(1), e[2]);
            Check.fine(x, "count(2) of there and back", x.count(2), e[2]);
            Check.fine(x, "open(" + e[0] + ", " + e[1] + ")", x.open(e[0], e[1]), 1);
        }
        int[][] far = {{3, 0}, {-3, 0}, {0, 3}, {0, -3}};
        for (int[] f : far) {
            Check.steps(x, f);
            for (int at = 26; at <= 30; at++) {
                Check.holds("from", x.from(at * f[0] / 3, at * f[1] / 3));
                Check.fine(x, "all(1) by 3 from " + at, x.all(1), at <= 27 ? 1 : 0);
            }
        }
    }

    // "1 HALF: y is 0 or more"
    private static void kindHalfIsFrom0Up() {
        WalkBench x = new WalkBench();
        Check.holds("kind(1, 0)", x.kind(1, 0));
        Check.fine(x, "open(0, 0)", x.open(0, 0), 1);
        Check.fine(x, "open(0, -1)", x.open(0, -1), 0);
        Check.fine(x, "open(-30, 0)", x.open(-30, 0), 1);
        Check.fine(x, "open(30, -1)", x.open(30, -1), 0);
        Check.fine(x, "open(0, 30)", x.open(0, 30), 1);
        Check.fine(x, "open(0, -30)", x.open(0, -30), 0);
        Check.fine(x, "all(1) at y 0", x.all(1), 3);
        Check.holds("from(0, 1)", x.from(0, 1));
        Check.fine(x, "all(1) at y 1", x.all(1), 4);
        Check.holds("from(0, 30)", x.from(0, 30));
        Check.fine(x, "all(1) at y 30", x.all(1), 3);
        Check.holds("from(0, -1)", x.from(0, -1));
        Check.refused(x, "all(1) at y -1", x.all(1), 7);
    }

    // "2 STRIP: y from 0 to TOP (0 to 30)"
    private static void kindStripIsFrom0ToTop() {
        WalkBench x = new WalkBench();
        int[] tops = {0, 1, 5, 29, 30};
        for (int top : tops) {
            Check.fine(x, "kind(2, " + top + ")", x.kind(2, top));
            Check.fine(x, "open(0, 0)", x.open(0, 0), 1);
            Check.fine(x, "open(0, -1)", x.open(0, -1), 0);
            Check.fine(x, "open(-30, TOP)", x.open(-30, top), 1);
            Check.holds("from", x.from(0, top) && x.to(0, top));
            Check.fine(x, "all(1) at TOP", x.all(1), top == 0 ? 2 : 3);
            Check.fine(x, "far(0) at TOP", x.far(0), 1);
            if (top < 30) {
                Check.fine(x, "open(0, TOP + 1)", x.open(0, top + 1), 0);
                Check.holds("from", x.from(0, top + 1));
                Check.refused(x, "all(1) above TOP", x.all(1), 7);
                Check.refused(x, "far(0) above TOP", x.far(0), 7);
            }
        }
        Check.refused(x, "kind(2, -1)", x.kind(2, -1), 2);
        Check.refused(x, "kind(2, 31)", x.kind(2, 31), 2);
        Check.refused(x, "kind(2, MAX)", x.kind(2, MAX), 2);
        Check.refused(x, "kind(2, MIN)", x.kind(2, MIN), 2);
        Check.fine(x, "open(0, 30), TOP is 30 still", x.open(0, 30), 1);
    }

    // "TOP (.. 5 at first)": a new object looks at TOP in far and rule alone
    private static void topIs5AtFirst() {
        WalkBench x = new WalkBench();
        Check.steps(x, 0, 1, 0, -1);
        Check.holds("from(0, 5)", x.from(0, 5) && x.to(0, 5));
        Check.fine(x, "far(2), down and up alone", x.far(2), 1);
        Check.holds("from(0, 4)", x.from(0, 4) && x.to(0, 4));
        Check.fine(x, "far(2), both ways", x.far(2), 2);
        Check.holds("from(0, 6)", x.from(0, 6));
        Check.refused(x, "far(2), A above 5", x.far(2), 7);
        Check.refused(x, "rule(), A above 5", x.rule(), 7);
        // the other KINDS leave TOP as it is
        Check.holds("kind(4, 9)", x.kind(4, 9) && x.kind(1, 0) && x.kind(3, 0) && x.kind(0, 0));
        Check.refused(x, "far(2), A above 5 still", x.far(2), 7);
        Check.holds("kind(2, 6)", x.kind(2, 6) && x.kind(4, 2));
        Check.fine(x, "far(0), A at TOP", x.far(0), 0);
    }

    // "3 CORNER: x and y are 0 or more"
    private static void kindCornerIsFrom0Both() {
        WalkBench x = new WalkBench();
        Check.holds("kind(3, 0)", x.kind(3, 0));
        int[][] open = {{0, 0}, {30, 0}, {0, 30}, {30, 30}};
        int[][] closed = {{-1, 0}, {0, -1}, {-1, -1}, {-1, 30}, {30, -1}, {-30, 0}, {0, -30}};
        for (int[] s : open) {
            Check.fine(x, "open(" + s[0] + ", " + s[1] + ")", x.open(s[0], s[1]), 1);
            Check.holds("from", x.from(s[0], s[1]));
            Check.fine(x, "all(1)", x.all(1), 2);
        }
        for (int[] s : closed) {
            Check.fine(x, "open(" + s[0] + ", " + s[1] + ")", x.open(s[0], s[1]), 0);
            Check.holds("from", x.from(s[0], s[1]));
            Check.refused(x, "all(1)", x.all(1), 7);
        }
        Check.holds("from", x.from(1, 0));
        Check.fine(x, "all(1) at (1, 0)", x.all(1), 3);
        Check.holds("from", x.from(0, 1));
        Check.fine(x, "all(1) at (0, 1)", x.all(1), 3);
        Check.holds("from", x.from(1, 1));
        Check.fine(x, "all(1) at (1, 1)", x.all(1), 4);
    }

    // "4 RING: x is from 0 to ROUND - 1 (ROUND 1 to 30 ..)"
    private static void kindRingIsFrom0ToRoundLess1() {
        WalkBench x = new WalkBench();
        int[] rounds = {1, 2, 6, 29, 30};
        for (int round : rounds) {
            Check.fine(x, "kind(4, " + round + ")", x.kind(4, round));
            Check.fine(x, "open(0, 0)", x.open(0, 0), 1);
            Check.fine(x, "open(-1, 0)", x.open(-1, 0), 0);
            Check.fine(x, "open(-30, 0)", x.open(-30, 0), 0);
            Check.fine(x, "open(ROUND - 1, 30)", x.open(round - 1, 30), 1);
            Check.fine(x, "open(ROUND - 1, -30)", x.open(round - 1, -30), 1);
            Check.fine(x, "open(ROUND, 0)", x.open(round, 0), 0);
            Check.holds("from", x.from(round, 0));
            Check.refused(x, "all(0) at ROUND", x.all(0), 7);
            Check.holds("from", x.from(round - 1, 0));
            Check.fine(x, "all(1) at ROUND - 1", x.all(1), 4);
        }
        Check.refused(x, "kind(4, 0)", x.kind(4, 0), 2);
        Check.refused(x, "kind(4, 31)", x.kind(4, 31), 2);
        Check.refused(x, "kind(4, -1)", x.kind(4, -1), 2);
        Check.refused(x, "kind(4, MAX)", x.kind(4, MAX), 2);
        Check.refused(x, "kind(4, MIN)", x.kind(4, MIN), 2);
        Check.fine(x, "open(29, 0), ROUND is 30 still", x.open(29, 0), 1);
    }

    // "each sum taken as its rest from 0 on"
    private static void ringSumsAreRests() {
        int[] rounds = {1, 2, 3, 4, 7, 30};
        for (int round : rounds) {
            WalkBench x = new WalkBench();
            Check.holds("kind(4, round)", x.kind(4, round));
            for (int dx = -3; dx <= 3; dx++) {
                if (dx == 0) {
                    continue;
                }
                Check.steps(x, dx, 0);
                for (int at = 0; at < round; at += at == 2 && round == 30 ? 25 : 1) {
                    int due = ((at + dx) % round + round) % round;
                    int y = dx % 2 == 0 ? 30 : -30;
                    Check.holds("from", x.from(at, y) && x.to(due, y));
                    Check.same("count(1) from " + at + " by " + dx + " round " + round, x.count(1), 1);
                }
                Check.holds("from", x.from(0, 7) && x.to(0, 7));
                Check.same("least() round " + round + " by " + dx, wayRound(x), leastRound(round, dx));
            }
        }
    }

    /** The least n above 0 by which a WALK comes back to A. */
    private static int wayRound(WalkBench x) {
        for (int n = 1; n <= 30; n++) {
            if (x.count(n) == 1) {
                return n;
            }
        }
        return 0;
    }

    private static int leastRound(int round, int dx) {
        int n = 1;
        while (n * Math.abs(dx) % round != 0) {
            n++;
        }
        return n;
    }

    // the same, for each call that goes along STEPS, on both sides of the RING
    private static void ringSumsAreRestsForEveryCall() {
        int[][] ways = {{1, 2, 0}, {-1, 0, 2}, {2, 1, 0}, {-2, 0, 1}, {3, 1, 1}, {-3, 2, 2}};
        for (int[] w : ways) {
            WalkBench x = new WalkBench();
            Check.holds("kind(4, 3)", x.kind(4, 3));
            Check.steps(x, 0, 1, w[0], 0);
            Check.holds("from", x.from(w[1], 0) && x.to(w[2], 0));
            String by = " by " + w[0] + " from " + w[1];
            Check.fine(x, "count(1)" + by, x.count(1), 1);
            Check.fine(x, "all(2)" + by, x.all(2), 4);
            Check.fine(x, "least()" + by, x.least(), w[1] == w[2] ? 0 : 1);
            Check.fine(x, "sum(0, 1, 1)" + by, x.sum(0, 1, 1), 1);
            Check.fine(x, "best(0, 1, false)" + by, x.best(0, 1, false), 1);
            Check.fine(x, "walk(1, 0)" + by, x.walk(1, 0), 1);
            Check.shows(x, "walk(1, 0)" + by, "1");
            Check.sheet(x, 0, 1);
            Check.fine(x, "number(0, 1)" + by, x.number(0, 1), 0);
            Check.fine(x, "draw(1, 5)" + by, x.draw(1, 5), 0);
            Check.holds("bar", x.bar(w[2], 0, true) && x.from(w[1], 1));
            Check.fine(x, "all(1)" + by + ", one BARRED aside", x.all(1), 2);
            Check.holds("bar", x.bar(w[2], 1, true));
            if (w[1] != w[2]) {
                Check.fine(x, "all(1)" + by + " to one that is BARRED", x.all(1), 1);
            }
        }
    }

    // "x is from 0 to ROUND - 1 .., each sum taken as its rest": of y no rest is taken
    private static void ringHasNoRestOfY() {
        WalkBench x = new WalkBench();
        Check.holds("kind(4, 6)", x.kind(4, 6));
        Check.steps(x, 0, 1, 0, -1);
        Check.holds("from", x.from(3, 30));
        Check.fine(x, "all(1) at y 30", x.all(1), 1);
        Check.holds("from", x.from(3, -30));
        Check.fine(x, "all(1) at y -30", x.all(1), 1);
        Check.holds("to", x.to(3, 30));
        Check.fine(x, "least() from -30 to 30", x.least(), 60);
        Check.fine(x, "count(60)", x.count(60), 1);
        Check.fine(x, "count(1)", x.count(1), 0);
    }

    // "OPEN are SQUARES of the KIND that are not BARRED"
    private static void openIsNotBarred() {
        WalkBench x = new WalkBench();
        for (int kind = 0; kind <= 4; kind++) {
            Check.holds("kind", x.kind(kind, kind == 2 || kind == 4 ? 8 : 0));
            Check.fine(x, "open(7, 8)", x.open(7, 8), 1);
            Check.holds("bar", x.bar(7, 8, true));
            Check.fine(x, "open(7, 8), BARRED", x.open(7, 8), 0);
            Check.fine(x, "open(7, 7), beside", x.open(7, 7), 1);
            Check.fine(x, "open(6, 8), beside", x.open(6, 8), 1);
            Check.holds("bar", x.bar(7, 8, false));
            Check.fine(x, "open(7, 8), no more BARRED", x.open(7, 8), 1);
        }
        // BARRED in one KIND is BARRED in the next, and what is outside a KIND is not OPEN, BARRED or not
        Check.holds("bar", x.bar(-4, -4, true) && x.kind(1, 0));
        Check.fine(x, "open(-4, -4) in a HALF", x.open(-4, -4), 0);
        Check.holds("bar", x.bar(-4, -4, false));
        Check.fine(x, "open(-4, -4) in a HALF, not BARRED", x.open(-4, -4), 0);
        Check.holds("bar", x.bar(-4, -4, true) && x.kind(0, 0));
        Check.fine(x, "open(-4, -4) of all SQUARES, BARRED", x.open(-4, -4), 0);
    }

    // "A WALK of n goes from A to B": with no STEPS, A is B
    private static void walkOfNoSteps() {
        WalkBench x = new WalkBench();
        Check.holds("kind(1, 0)", x.kind(1, 0));
        Check.holds("sheet(0, 0, 0)", x.sheet(0, 0, 0));
        Check.fine(x, "count(0)", x.count(0), 1);
        Check.fine(x, "all(0)", x.all(0), 1);
        Check.fine(x, "least()", x.least(), 0);
        Check.fine(x, "number(0, 0)", x.number(0, 0), 0);
        Check.fine(x, "draw(0, 7)", x.draw(0, 7), 0);
        for (int weight = 0; weight <= 3; weight++) {
            Check.fine(x, "sum(weight, 0, 0)", x.sum(weight, 0, 0), 1);
            Check.fine(x, "sum(weight, 0, 1)", x.sum(weight, 0, 1), 0);
            Check.fine(x, "best(weight, 0, true)", x.best(weight, 0, true), 0);
            Check.fine(x, "best(weight, 0, false)", x.best(weight, 0, false), 0);
        }
        Check.fine(x, "walk(1, 0) to fill OUT", x.to(1, 0) && x.walk(1, 0) == 1 && x.to(0, 0));
        Check.fine(x, "walk(0, 0)", x.walk(0, 0), 0);
        Check.shows(x, "walk(0, 0)", "");
        Check.refused(x, "walk(0, 1)", x.walk(0, 1), 8);
        Check.holds("to", x.to(0, 1));
        Check.fine(x, "count(0), B is another", x.count(0), 0);
        Check.fine(x, "all(0), B is another", x.all(0), 1);
        Check.fine(x, "sum(0, 0, 0), B is another", x.sum(0, 0, 0), 0);
        Check.refused(x, "best(0, 0, true), B is another", x.best(0, 0, true), 8);
        Check.refused(x, "walk(0, 0), B is another", x.walk(0, 0), 8);
        Check.refused(x, "number(0, 0), B is another", x.number(0, 0), 8);
        Check.refused(x, "draw(0, 7), B is another", x.draw(0, 7), 8);
    }

    // "all its SQUARES, A and B too, are OPEN": A or B alone that is not is enough
    private static void endsAreOpen() {
        int[][] ends = {{1, 0, 0, 0}, {0, 0, 1, 0}, {1, 0, 1, 0}, {0, -1, 0, 0}, {0, 0, 0, -1}};
        for (int[] e : ends) {
            WalkBench x = new WalkBench();
            Check.holds("kind(1, 0)", x.kind(1, 0) && x.bar(1, 0, true) && x.sheet(0, 0, 0));
            Check.holds("from and to", x.from(e[0], e[1]) && x.to(e[2], e[3]));
            Check.refused(x, "count(0)", x.count(0), 7);
            Check.refused(x, "count(2)", x.count(2), 7);
            Check.refused(x, "least()", x.least(), 7);
            Check.refused(x, "sum(0, 2, 0)", x.sum(0, 2, 0), 7);
            Check.refused(x, "best(0, 2, true)", x.best(0, 2, true), 7);
            Check.refused(x, "walk(2, 0)", x.walk(2, 0), 7);
            Check.refused(x, "number(0, 0)", x.number(0, 0), 7);
            Check.refused(x, "draw(2, 0)", x.draw(2, 0), 7);
            boolean aIsOpen = e[0] == 0 && e[1] == 0;
            Check.same("all(1) looks at A alone", x.all(1), aIsOpen ? 2 : -1);
            Check.same("status() of all(1)", x.status(), aIsOpen ? 0 : 7);
        }
    }

    // "all its SQUARES .. are OPEN": the SQUARES that a STEP comes to, not those that it leaps
    private static void walkIsOpenAllAlong() {
        WalkBench x = new WalkBench();
        Check.steps(x, 3, 0, 1, 0);
        Check.holds("to(3, 0)", x.to(3, 0));
        Check.fine(x, "count(1)", x.count(1), 1);
        Check.fine(x, "count(3)", x.count(3), 1);
        Check.holds("bar", x.bar(1, 0, true));
        Check.fine(x, "count(1) over one that is BARRED", x.count(1), 1);
        Check.fine(x, "count(3) by one that is BARRED", x.count(3), 0);
        Check.holds("bar", x.bar(1, 0, false) && x.bar(2, 0, true));
        Check.fine(x, "count(3) by the other", x.count(3), 0);
        Check.sheet(x, 0, 1, 1, 1);
        Check.refused(x, "number of it", x.number(0, 3), 8);
        Check.fine(x, "least()", x.least(), 1);
        // out of the KIND and back is no WALK
        Check.steps(x, 1, -1, 1, 1);
        Check.holds("kind", x.kind(1, 0) && x.bar(2, 0, false) && x.to(2, 0));
        Check.fine(x, "count(2), up and down alone", x.count(2), 1);
        Check.sheet(x, 0, 0, 1);
        Check.refused(x, "number of down and up", x.number(0, 2), 8);
        // nor out of the plane and back
        Check.steps(x, 1, 1, -1, 1);
        Check.holds("kind", x.kind(0, 0) && x.from(30, 0) && x.to(30, 2));
        Check.fine(x, "count(2) at the edge", x.count(2), 1);
        Check.sheet(x, 0, 0, 1);
        Check.refused(x, "number of out and back", x.number(0, 2), 8);
    }

    // "in order by the first STEP in which they differ, the lesser number first, numbered from 0"
    private static void walksAreInOrder() {
        WalkBench x = new WalkBench();
        String[] due = {"02", "13", "20", "31"};
        for (int k = 0; k < 4; k++) {
            Check.fine(x, "walk(2, k)", x.walk(2, k), 2);
            Check.shows(x, "walk(2, " + k + ")", due[k]);
            Check.sheet(x, 0, due[k].charAt(0) - '0', due[k].charAt(1) - '0');
            Check.fine(x, "number(0, 2)", x.number(0, 2), k);
        }
        Check.refused(x, "walk(2, -1)", x.walk(2, -1), 8);
        Check.refused(x, "walk(2, 4)", x.walk(2, 4), 8);
        // the numbers of the STEPS as they were told, not their (dx, dy)
        Check.steps(x, 0, -1, -1, 0, 0, 1, 1, 0);
        Check.fine(x, "walk(2, 0)", x.walk(2, 0), 2);
        Check.shows(x, "walk(2, 0) by other STEPS", "02");
        Check.fine(x, "walk(60, 0) along the edge", x.from(-30, 30) && x.to(30, 30) && x.walk(60, 0) == 60);
        Check.shows(x, "walk(60, 0)", "3".repeat(60));
        Check.refused(x, "walk(60, 1)", x.walk(60, 1), 8);
    }

    // "0 TOUCHES: how many of its SQUARES but the first have y 0"
    private static void touchesLeaveOutTheFirst() {
        WalkBench x = new WalkBench();
        Check.holds("to(0, 1)", x.to(0, 1));
        Check.fine(x, "best(0, 1, true) from y 0", x.best(0, 1, true), 0);
        Check.fine(x, "sum(0, 1, 0) from y 0", x.sum(0, 1, 0), 1);
        Check.holds("from(0, 1)", x.from(0, 1) && x.to(0, 0));
        Check.fine(x, "best(0, 1, false) to y 0", x.best(0, 1, false), 1);
        Check.fine(x, "sum(0, 1, 1) to y 0", x.sum(0, 1, 1), 1);
        Check.holds("to(0, -1)", x.to(0, -1));
        Check.fine(x, "sum(0, 2, 1) through y 0", x.sum(0, 2, 1), 1);
        Check.holds("to(3, 1)", x.to(3, 1));
        Check.fine(x, "best(0, 3, true) at y 1", x.best(0, 3, true), 0);
        Check.holds("from(0, -1)", x.from(0, -1) && x.to(3, -1));
        Check.fine(x, "best(0, 3, true) at y -1", x.best(0, 3, true), 0);
        Check.holds("from(0, 0)", x.from(0, 0) && x.to(14, 0));
        Check.fine(x, "best(0, 14, false) along y 0", x.best(0, 14, false), 14);
    }

    // "1 TURNS: how many of its STEPS are another one than the STEP ahead"
    private static void turnsAreOfAnotherStep() {
        WalkBench x = new WalkBench();
        Check.holds("to(1, 0)", x.to(1, 0));
        Check.fine(x, "best(1, 1, true), one STEP", x.best(1, 1, true), 0);
        Check.holds("to(2, 0)", x.to(2, 0));
        Check.fine(x, "best(1, 2, true), twice the same", x.best(1, 2, true), 0);
        Check.holds("to(0, 0)", x.to(0, 0));
        Check.fine(x, "best(1, 2, false), there and back", x.best(1, 2, false), 1);
        Check.fine(x, "best(1, 14, true), each another", x.best(1, 14, true), 13);
        Check.fine(x, "sum(1, 14, 14)", x.sum(1, 14, 14), 0);
        Check.holds("sum(1, 14, 13)", x.sum(1, 14, 13) > 0);
        // two STEPS to one SQUARE are two
        Check.holds("kind(4, 2)", x.kind(4, 2));
        Check.steps(x, 1, 0, -1, 0);
        Check.fine(x, "sum(1, 2, 0)", x.sum(1, 2, 0), 2);
        Check.fine(x, "sum(1, 2, 1)", x.sum(1, 2, 1), 2);
    }

    // "2 AREA: the sum of y of its SQUARES but the first"
    private static void areaLeavesOutTheFirst() {
        WalkBench x = new WalkBench();
        Check.holds("kind(1, 0)", x.kind(1, 0) && x.from(0, 3) && x.to(0, 2));
        Check.fine(x, "best(2, 1, true) from 3 to 2", x.best(2, 1, true), 2);
        Check.fine(x, "sum(2, 1, 2)", x.sum(2, 1, 2), 1);
        Check.holds("from(0, 0)", x.from(0, 0) && x.to(2, 0));
        Check.fine(x, "best(2, 2, true) along y 0", x.best(2, 2, true), 0);
        Check.steps(x, 1, 0);
        Check.holds("from(0, 30)", x.from(0, 30) && x.to(4, 30));
        Check.fine(x, "sum(2, 4, 120), 4 times 30", x.sum(2, 4, 120), 1);
        Check.fine(x, "sum(2, 4, 119)", x.sum(2, 4, 119), 0);
        Check.holds("to(5, 30)", x.to(5, 30));
        Check.fine(x, "sum(2, 5, 120), 5 times 30", x.sum(2, 5, 120), 0);
        Check.fine(x, "best(2, 5, false), 5 times 30", x.best(2, 5, false), 150);
        Check.holds("to(14, 30)", x.to(14, 30));
        Check.fine(x, "best(2, 14, true), 14 times 30", x.best(2, 14, true), 420);
    }

    // "(KINDS 1, 2, 3)"
    private static void areaIsOfThreeKinds() {
        WalkBench x = new WalkBench();
        for (int kind = 0; kind <= 4; kind++) {
            Check.holds("kind", x.kind(kind, kind == 2 || kind == 4 ? 4 : 0));
            if (kind == 0 || kind == 4) {
                Check.refused(x, "sum(2, 2, 0) in KIND " + kind, x.sum(2, 2, 0), 5);
                Check.refused(x, "best(2, 2, true) in KIND " + kind, x.best(2, 2, true), 5);
            } else {
                Check.fine(x, "sum(2, 2, 1) in KIND " + kind, x.sum(2, 2, 1), 1);
                Check.fine(x, "best(2, 2, true) in KIND " + kind, x.best(2, 2, true), 1);
            }
            for (int weight = 0; weight <= 3; weight += weight == 1 ? 2 : 1) {
                Check.holds("another weight in KIND " + kind, x.best(weight, 2, true) > 0);
            }
        }
    }

    // "3 TOLD: the sum of its STEPS' TOLD weights"
    private static void toldWeightsAreAdded() {
        WalkBench x = new WalkBench();
        Check.holds("told", x.told(0, 0) && x.told(2, 9) && x.told(1, 3) && x.told(3, 4));
        Check.fine(x, "sum(3, 2, 9), right and left", x.sum(3, 2, 9), 2);
        Check.fine(x, "sum(3, 2, 7), up and down", x.sum(3, 2, 7), 2);
        Check.fine(x, "sum(3, 2, 0)", x.sum(3, 2, 0), 0);
        Check.holds("to(14, 0)", x.to(14, 0));
        Check.fine(x, "best(3, 14, true), 14 times 0", x.best(3, 14, true), 0);
        Check.fine(x, "sum(3, 14, 0)", x.sum(3, 14, 0), 1);
        Check.holds("to(-14, 0)", x.to(-14, 0));
        Check.fine(x, "best(3, 14, false), 14 times 9", x.best(3, 14, false), 126);
        Check.holds("told", x.told(2, 8) && x.told(1, 8) && x.to(-13, 1));
        Check.fine(x, "sum(3, 14, 112)", x.sum(3, 14, 112), 14);
        Check.steps(x, -1, 0, 0, 1);
        Check.fine(x, "sum(3, 14, 14), weights 1 again", x.sum(3, 14, 14), 14);
    }

    /** A plane on which 2 to the power 62 less 1 WALKS of 34 lead from (0, 0) back to it. */
    private static WalkBench nearlyGreat() {
        int[][] barred = {{2, -3}, {-2, 4}, {-6, -3}, {8, -2}, {6, 7}, {-11, 0}, {-11, 4}, {-13, -2}, {13, -4}, {-3, 14}, {-1, 15},
            {-2, -15}, {2, -15}, {-1, -16}, {-16, -1}, {17, 0}, {0, -17}, {-1, 16}};
        WalkBench x = new WalkBench();
        for (int[] s : barred) {
            Check.holds("bar", x.bar(s[0], s[1], true));
        }
        return x;
    }

    // "GREAT (9): a number told would be 2 to the power 62 or more": of count, walk, number and draw
    private static void greatIsTwoToThe62() {
        WalkBench x = nearlyGreat();
        Check.fine(x, "count(34), 2 to the power 62 less 1", x.count(34), GREAT - 1);
        Check.fine(x, "walk(34, 0)", x.walk(34, 0), 34);
        Check.fine(x, "walk(34, 2 to the power 62 less 2)", x.walk(34, GREAT - 2), 34);
        Check.sheet(x, 0, digits(Check.shown(x)));
        Check.fine(x, "number(0, 34), the last", x.number(0, 34), GREAT - 2);
        Check.refused(x, "walk(34, 2 to the power 62 less 1)", x.walk(34, GREAT - 1), 8);
        Check.refused(x, "walk(34, 2 to the power 62)", x.walk(34, GREAT), 8);
        Check.refused(x, "walk(34, MAX)", x.walk(34, Long.MAX_VALUE), 8);
        long drawn = x.draw(34, 1);
        Check.same("status() of draw", x.status(), 0);
        Check.holds("draw(34, 1) is one of them", drawn >= 0 && drawn < GREAT - 1);
        // one walk more goes over (17, 0)
        Check.holds("bar", x.bar(17, 0, false));
        Check.refused(x, "count(34), 2 to the power 62", x.count(34), 9);
        Check.refused(x, "walk(34, 0)", x.walk(34, 0), 9);
        Check.refused(x, "walk(34, 2 to the power 62 less 1)", x.walk(34, GREAT - 1), 9);
        Check.refused(x, "number(0, 34)", x.number(0, 34), 9);
        Check.refused(x, "draw(34, 1)", x.draw(34, 1), 9);
        Check.fine(x, "least() is no such number", x.least(), 0);
    }

    // the same of all
    private static void greatAllAreTwoToThe62() {
        WalkBench x = new WalkBench();
        Check.holds("kind(4, 5)", x.kind(4, 5));
        Check.steps(x, 1, 0, 2, 0, 3, 0, 0, 1);
        Check.fine(x, "all(31), all but the one that goes up alone", x.all(31), GREAT - 1);
        Check.holds("from(0, -1)", x.from(0, -1));
        Check.refused(x, "all(31), all of them", x.all(31), 9);
        Check.fine(x, "all(30)", x.all(30), GREAT / 4);
        Check.refused(x, "all(60)", x.all(60), 9);
        Check.refused(x, "all(61)", x.all(61), 2);
        Check.steps(x, 1, 0, 2, 0);
        Check.fine(x, "all(60), 2 to the power 60", x.all(60), GREAT / 4);
        Check.steps(x, 0, 1);
        Check.fine(x, "all(31)", x.all(31), 1);
        Check.fine(x, "all(32), over the edge", x.all(32), 0);
        Check.fine(x, "all(60), over the edge", x.all(60), 0);
    }

    // "a number told would be": numbers that are not told may be as great as they are
    private static void greatIsAskedOfTheAnswerAlone() {
        WalkBench x = new WalkBench();
        Check.steps(x, 1, 0, -1, 0, 0, 1, 0, -1, 1, 1, -1, -1, 1, -1, 3, 1);
        Check.refused(x, "count(60)", x.count(60), 9);
        Check.fine(x, "least()", x.least(), 0);
        // very many come near B, but all ways on are BARRED
        Check.holds("to(30, 30)", x.to(30, 30));
        Check.holds("bar", x.bar(29, 30, true) && x.bar(30, 29, true) && x.bar(29, 29, true) && x.bar(27, 29, true));
        Check.fine(x, "count(60) to one that none comes to", x.count(60), 0);
        Check.refused(x, "walk(60, 0)", x.walk(60, 0), 8);
        Check.refused(x, "draw(60, 0)", x.draw(60, 0), 8);
        Check.refused(x, "least()", x.least(), 8);
        Check.refused(x, "all(60)", x.all(60), 9);
    }

    // "or more": numbers that come round to few in 64 bits too, as 4 to the power 32 does
    private static void greatStaysGreat() {
        WalkBench x = new WalkBench();
        Check.holds("kind(4, 1)", x.kind(4, 1));
        Check.steps(x, 1, 0, -1, 0, 2, 0, -2, 0);
        Check.sheet(x, 0, new int[60]);
        for (int n = 31; n <= 60; n++) {
            Check.refused(x, "count(" + n + "), 4 to this power", x.count(n), 9);
            Check.refused(x, "all(" + n + ")", x.all(n), 9);
            Check.refused(x, "walk(" + n + ", 0)", x.walk(n, 0), 9);
            Check.refused(x, "number(0, " + n + ")", x.number(0, n), 9);
            Check.refused(x, "draw(" + n + ", 1)", x.draw(n, 1), 9);
        }
        x = new WalkBench();
        for (int n = 34; n <= 60; n += 2) {
            Check.refused(x, "count(" + n + ") by four STEPS", x.count(n), 9);
            Check.fine(x, "count(" + (n - 1) + "), none", x.count(n - 1), 0);
            Check.refused(x, "all(" + n + ") by four STEPS", x.all(n), 9);
        }
        Check.steps(x, 1, 0, -1, 0, 0, 1, 0, -1, 1, 1, -1, 1, 1, -1, -1, -1);
        for (int n = 24; n <= 60; n++) {
            Check.refused(x, "count(" + n + ") by eight STEPS", x.count(n), 9);
            Check.refused(x, "all(" + n + ") by eight STEPS", x.all(n), 9);
        }
    }

    // the same, from SQUARES of which some see GREAT numbers a STEP ahead and others not yet: by eight STEPS to all
    // sides there are no fewer WALKS of a STEP more, as the last STEP is as two others
    private static void greatStaysGreatFromEverywhere() {
        for (int y = -30; y <= 30; y += 2) {
            WalkBench x = new WalkBench();
            Check.steps(x, 1, 0, -1, 0, 0, 1, 0, -1, 1, 1, -1, 1, 1, -1, -1, -1);
            Check.holds("to", x.to(y / 3, y / 2));
            for (int at = -30; at <= 30; at += 20) {
                Check.holds("from", x.from(at, y));
                long before = 0;
                for (int n = 1; n <= 60; n++) {
                    long many = x.count(n);
                    Check.holds("count(" + n + ") from (" + at + ", " + y + ") is no less than of a STEP less",
                        before == -1 ? many == -1 && x.status() == 9 : many == -1 || many >= before);
                    before = many;
                }
                Check.same("count(60) from (" + at + ", " + y + ")", before, -1);
            }
        }
    }

    private static int[] digits(String word) {
        int[] numbers = new int[word.length()];
        for (int i = 0; i < numbers.length; i++) {
            numbers[i] = word.charAt(i) - '0';
        }
        return numbers;
    }
}
