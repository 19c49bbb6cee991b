/** Promises 27 to 33: FAMILIES, BOXES and BRACKETS. */
public final class FamilyTest {
    private FamilyTest() {
    }

    public static void main(String[] args) {
        promise27Family();
        promise28Place();
        promise29Table();
        promise29TableRefused();
        promise30Worth();
        promise30WorthOfFour();
        promise30WorthRefused();
        promise31Boxes();
        promise31AllBoxes();
        promise32And33Brackets();
        promise32BracketsRefused();
        promise33OrderRefused();
        Check.end();
    }

    private static void promise27Family() {
        WalkBench x = new WalkBench();
        Check.refused(x, "family(0)", x.family(0), 2);
        Check.refused(x, "family(5)", x.family(5), 2);
        Check.refused(x, "family(-1)", x.family(-1), 2);
        Check.refused(x, "table(0, 0) without a FAMILY", x.table(0, 0), 8);
        for (int many = 1; many <= 4; many++) {
            Check.fine(x, "family(many)", x.family(many));
            Check.fine(x, "table of the last", x.table(many - 1, many - 1), 1);
            Check.refused(x, "table beyond", x.table(0, many), 8);
            Check.fine(x, "worth(), all are alike", x.worth(), many == 1 ? 1 : 0);
        }
        Check.fine(x, "place(3, true, 2, 2)", x.place(3, true, 2, 2));
        Check.fine(x, "place(0, false, -1, -1)", x.place(0, false, -1, -1));
        Check.fine(x, "table(0, 3)", x.table(0, 3), 20);
        Check.refused(x, "family(5)", x.family(5), 2);
        Check.fine(x, "table(0, 3) as it was", x.table(0, 3), 20);
        Check.fine(x, "family(4)", x.family(4));
        Check.fine(x, "table(0, 3), told again", x.table(0, 3), 1);
        int[][] far = {{1, 0}, {0, 1}};
        for (int[] row : far) {
            Check.holds("place", x.place(0, false, row[0], row[1]));
            Check.holds("place", x.place(3, true, -row[0], -row[1]));
            Check.fine(x, "table(0, 0), behind", x.table(0, 0), 0);
            Check.fine(x, "table(3, 3), behind", x.table(3, 3), 0);
            Check.holds("family(4)", x.family(4));
            Check.fine(x, "table(0, 0), told again", x.table(0, 0), 1);
            Check.fine(x, "table(3, 3), told again", x.table(3, 3), 1);
        }
    }

    private static void promise28Place() {
        WalkBench x = new WalkBench();
        Check.refused(x, "place without a FAMILY", x.place(0, false, 0, 0), 8);
        Check.refused(x, "place of no SQUARE", x.place(0, false, 31, 0), 2);
        Check.holds("family(2)", x.family(2));
        Check.refused(x, "place(2, ..)", x.place(2, true, 0, 0), 8);
        Check.refused(x, "place(-1, ..)", x.place(-1, true, 0, 0), 8);
        Check.refused(x, "place(-1, ..), the SQUARE ahead", x.place(-1, true, 0, -31), 2);
        Check.refused(x, "place(0, .., -31, 0)", x.place(0, true, -31, 0), 2);
        Check.refused(x, "place(0, .., 0, 31)", x.place(0, true, 0, 31), 2);
        Check.refused(x, "place(MAX, ..)", x.place(Integer.MAX_VALUE, false, 0, 0), 8);
        Check.fine(x, "place(1, false, -30, -30)", x.place(1, false, -30, -30));
        Check.fine(x, "place(1, true, -29, -30)", x.place(1, true, -29, -30));
        Check.fine(x, "table(1, 1)", x.table(1, 1), 1);
        Check.fine(x, "table(0, 0)", x.table(0, 0), 1);
        Check.fine(x, "table(0, 1), behind", x.table(0, 1), 0);
        Check.fine(x, "place of a corner", x.place(0, true, 30, 30));
        Check.holds("bar", x.bar(7, 7, true));
        Check.fine(x, "place of a SQUARE that is BARRED", x.place(0, true, 7, 7));
    }

    private static void promise29Table() {
        WalkBench x = new WalkBench();
        Check.holds("family(1)", x.family(1));
        int[][] ways = {{0, 0, 1}, {1, 0, 1}, {1, 1, 2}, {3, 2, 10}, {5, 5, 252}, {8, 8, 12870}, {30, 1, 31}, {-1, 3, 0}, {3, -1, 0}};
        for (int[] row : ways) {
            Check.holds("place", x.place(0, true, row[0], row[1]));
            Check.fine(x, "table(0, 0) to " + row[0] + ", " + row[1], x.table(0, 0), row[2]);
        }
        // as wide and as high as the plane
        int[][] edges = {{30, -30, 1}, {30, -29, 61}, {30, -28, 1891}, {-30, 30, 1}, {-29, 30, 61}, {-28, 30, 1891}};
        Check.holds("place", x.place(0, false, -30, -30));
        for (int[] row : edges) {
            Check.holds("place", x.place(0, true, row[0], row[1]));
            Check.fine(x, "table(0, 0) to " + row[0] + ", " + row[1], x.table(0, 0), row[2]);
        }
        // the KIND is not looked at, nor the STEPS
        Check.holds("kind", x.kind(3, 0));
        Check.steps(x, -1, -1);
        Check.holds("place", x.place(0, false, -2, -2));
        Check.holds("place", x.place(0, true, 0, 0));
        Check.fine(x, "table(0, 0) outside the KIND", x.table(0, 0), 6);
        Check.holds("bar", x.bar(-1, -1, true));
        Check.fine(x, "table(0, 0) round a SQUARE", x.table(0, 0), 2);
        Check.holds("bar", x.bar(-2, 0, true));
        Check.fine(x, "table(0, 0) round two", x.table(0, 0), 1);
        Check.holds("bar", x.bar(0, -1, true));
        Check.fine(x, "table(0, 0), no way", x.table(0, 0), 0);
        Check.holds("bar", x.bar(-1, -1, false));
        Check.fine(x, "table(0, 0), through the middle", x.table(0, 0), 2);
    }

    private static void promise29TableRefused() {
        WalkBench x = new WalkBench();
        Check.refused(x, "table(0, 0) without a FAMILY", x.table(0, 0), 8);
        Check.holds("family(2)", x.family(2));
        Check.refused(x, "table(-1, 0)", x.table(-1, 0), 8);
        Check.refused(x, "table(0, -1)", x.table(0, -1), 8);
        Check.refused(x, "table(2, 0)", x.table(2, 0), 8);
        Check.refused(x, "table(0, 2)", x.table(0, 2), 8);
        Check.holds("place", x.place(0, true, 20, 20));
        Check.holds("place", x.place(1, true, 5, 0));
        Check.refused(x, "table(0, 0), GREAT", x.table(0, 0), 9);
        Check.fine(x, "table(0, 1)", x.table(0, 1), 1);
        Check.holds("bar", x.bar(20, 20, true));
        Check.refused(x, "table(0, 0), BARRED ahead of GREAT", x.table(0, 0), 7);
        Check.fine(x, "table(0, 1), its own are not BARRED", x.table(0, 1), 1);
        Check.holds("bar", x.bar(0, 0, true));
        Check.refused(x, "table(0, 1), the beginning is BARRED", x.table(0, 1), 7);
        // GREAT is above 20,000, of numbers that grow row by row
        x = new WalkBench();
        Check.holds("family(1)", x.family(1));
        Check.holds("place", x.place(0, false, -30, -30));
        Check.holds("place", x.place(0, true, 2, 30));
        Check.refused(x, "table(0, 0), GREAT by far", x.table(0, 0), 9);
        Check.holds("place", x.place(0, true, -27, 16));
        Check.fine(x, "table(0, 0), 49 above 3", x.table(0, 0), 49 * 48 * 47 / 6);
        Check.holds("place", x.place(0, true, -27, 17));
        Check.fine(x, "table(0, 0), 50 above 3", x.table(0, 0), 50 * 49 * 48 / 6);
        Check.holds("place", x.place(0, true, -27, 18));
        Check.refused(x, "table(0, 0), 51 above 3 is 20825", x.table(0, 0), 9);
    }

    private static void promise30Worth() {
        WalkBench x = new WalkBench();
        Check.holds("family(2)", x.family(2));
        told(x, 0, 0, 1, 1, 2);
        told(x, 1, 1, 0, 2, 1);
        Check.fine(x, "worth()", x.worth(), 2 * 2 - 1);
        // ends told the other way round turn the sign
        told(x, 0, 0, 1, 2, 1);
        told(x, 1, 1, 0, 1, 2);
        Check.fine(x, "worth(), below 0", x.worth(), -3);
        told(x, 0, 0, 1, 1, 0);
        told(x, 1, 1, 0, 0, 1);
        Check.fine(x, "worth(), -1 that is no NONE", x.worth(), -1);
        Check.holds("family(3)", x.family(3));
        // families of three that never meet are boxes of 3, 2, 2
        for (int i = 0; i < 3; i++) {
            told(x, i, -i, i, 2 - i, 2 + i);
        }
        Check.fine(x, "worth() of three", x.worth(), x.boxes(3, 2, 2));
        Check.fine(x, "worth() of three, told", x.worth(), 50);
        Check.holds("bar", x.bar(0, 1, true));
        Check.fine(x, "worth() of three round a SQUARE", x.worth(), barredThree());
    }

    /** Families of three from (-i, i) to (2 - i, 2 + i) that never meet and never come to (0, 1), one by one. */
    private static long barredThree() {
        long many = 0;
        for (int word = 0; word < 1 << 12; word++) {
            boolean stands = true;
            int[] px = {0, -1, -2};
            int[] py = {0, 1, 2};
            for (int s = 0; s < 4 && stands; s++) {
                for (int i = 0; i < 3; i++) {
                    boolean right = (word >> (4 * i + s) & 1) == 0;
                    px[i] += right ? 1 : 0;
                    py[i] += right ? 0 : 1;
                    stands &= px[i] != 0 || py[i] != 1;
                }
                stands &= px[0] != px[1] && px[1] != px[2];
            }
            for (int i = 0; i < 3; i++) {
                stands &= px[i] == 2 - i && py[i] == 2 + i;
            }
            many += stands ? 1 : 0;
        }
        return many;
    }

    private static void promise30WorthOfFour() {
        WalkBench x = new WalkBench();
        Check.holds("family(4)", x.family(4));
        for (int i = 0; i < 4; i++) {
            told(x, i, -i, i, 3 - i, 4 + i);
        }
        Check.fine(x, "worth() of four", x.worth(), x.boxes(4, 3, 4));
        Check.holds("family(4)", x.family(4));
        int[][] all = {{0, 0, 5, 6}, {-3, 1, 4, 4}, {1, -2, 2, 7}, {-1, -1, 6, 3}};
        for (int i = 0; i < 4; i++) {
            told(x, i, all[i][0], all[i][1], all[i][2], all[i][3]);
        }
        Check.fine(x, "worth() of four, by all orders of the ends", x.worth(), byOrders(x));
        for (int i = 0; i < 4; i++) {
            told(x, i, all[i][0], all[i][1], all[3 - i][2], all[(i + 2) % 4][3]);
        }
        Check.fine(x, "worth() of four others", x.worth(), byOrders(x));
    }

    private static long byOrders(WalkBench x) {
        long sum = 0;
        for (int a = 0; a < 4; a++) {
            for (int b = 0; b < 4; b++) {
                for (int c = 0; c < 4; c++) {
                    int d = 6 - a - b - c;
                    if (a == b || a == c || b == c) {
                        continue;
                    }
                    int[] ends = {a, b, c, d};
                    long product = 1;
                    for (int i = 0; i < 4; i++) {
                        product *= x.table(i, ends[i]);
                        for (int j = i + 1; j < 4; j++) {
                            product *= ends[i] > ends[j] ? -1 : 1;
                        }
                    }
                    sum += product;
                }
            }
        }
        return sum;
    }

    private static void promise30WorthRefused() {
        WalkBench x = new WalkBench();
        Check.refused(x, "worth() without a FAMILY", x.worth(), 8);
        Check.holds("family(2)", x.family(2));
        Check.holds("place", x.place(1, true, 25, 25));
        Check.refused(x, "worth(), one is GREAT", x.worth(), 9);
        Check.holds("bar", x.bar(25, 25, true));
        Check.refused(x, "worth(), BARRED ahead of GREAT", x.worth(), 7);
        Check.holds("family(1)", x.family(1));
        Check.fine(x, "worth(), the other FAMILY is gone", x.worth(), 1);
        Check.holds("bar", x.bar(0, 0, true));
        Check.refused(x, "worth(), its beginning is BARRED", x.worth(), 7);
    }

    private static void told(WalkBench x, int k, int bx, int by, int ex, int ey) {
        Check.holds("place(" + k + ", false, ..)", x.place(k, false, bx, by));
        Check.holds("place(" + k + ", true, ..)", x.place(k, true, ex, ey));
    }

    private static void promise31Boxes() {
        WalkBench x = new WalkBench();
        long[] cubes = {1, 2, 20, 980, 232848, 267227532L, 1478619421136L};
        for (int a = 0; a <= 6; a++) {
            Check.fine(x, "boxes of a cube", x.boxes(a, a, a), cubes[a]);
            Check.fine(x, "boxes(a, 1, 1)", x.boxes(a, 1, 1), a + 1);
            Check.fine(x, "boxes(1, a, 1)", x.boxes(1, a, 1), a + 1);
            Check.fine(x, "boxes(1, 1, a)", x.boxes(1, 1, a), a + 1);
            Check.fine(x, "boxes(0, a, 6)", x.boxes(0, a, 6), 1);
            Check.fine(x, "boxes(a, 0, 6)", x.boxes(a, 0, 6), 1);
            Check.fine(x, "boxes(6, a, 0)", x.boxes(6, a, 0), 1);
        }
        Check.fine(x, "boxes(2, 3, 4)", x.boxes(2, 3, 4), 490);
        Check.fine(x, "boxes(4, 2, 3)", x.boxes(4, 2, 3), 490);
        Check.fine(x, "boxes(6, 6, 1)", x.boxes(6, 6, 1), 924);
        int[][] wrong = {{7, 0, 0}, {0, 7, 0}, {0, 0, 7}, {-1, 0, 0}, {0, -1, 0}, {0, 0, -1}, {Integer.MAX_VALUE, 1, 1}};
        for (int[] row : wrong) {
            Check.refused(x, "boxes", x.boxes(row[0], row[1], row[2]), 2);
        }
    }

    /** All of them, against rows below rows told one by one. */
    private static void promise31AllBoxes() {
        PlainBench plain = new PlainBench();
        for (int a = 0; a <= 6; a++) {
            WalkBench x = new WalkBench();
            for (int b = 0; b <= 6; b++) {
                for (int c = 0; c <= 6; c++) {
                    Check.fine(x, "boxes(" + a + ", " + b + ", " + c + ")", x.boxes(a, b, c), plain.boxes(a, b, c));
                }
            }
        }
    }

    private static void promise32And33Brackets() {
        long[] catalan = {1, 1, 2, 5, 14, 42, 132};
        for (int n = 0; n < catalan.length; n++) {
            String before = "";
            WalkBench x = new WalkBench();
            for (long k = 0; k < catalan[n]; k++) {
                // an object is used for 512 calls at most
                x = k % 7 == 0 ? new WalkBench() : x;
                Check.fine(x, "brackets(" + n + ", " + k + ")", x.brackets(n, k), 2 * n);
                String word = Check.shown(x);
                Check.holds("brackets in order", k == 0 || before.compareTo(word) < 0);
                Check.holds("brackets that close: " + word, closes(word));
                before = word;
                Check.holds("sheet", x.sheet(0, 0, 2 * n));
                for (int i = 0; i < 2 * n; i++) {
                    Check.holds("write", x.write(0, i, word.charAt(i) == '(' ? 0 : 1));
                }
                Check.fine(x, "order of " + word, x.order(0, 2 * n), k);
                Check.shows(x, "OUT after order()", word);
            }
            Check.refused(x, "brackets(n, how many)", x.brackets(n, catalan[n]), 8);
            Check.shows(x, "OUT after refused brackets", before);
        }
        promise32And33Longest();
    }

    private static void promise32And33Longest() {
        WalkBench x = new WalkBench();
        Check.fine(x, "brackets(30, 0)", x.brackets(30, 0), 60);
        Check.shows(x, "brackets(30, 0)", "(".repeat(30) + ")".repeat(30));
        Check.fine(x, "brackets(30, last)", x.brackets(30, 3814986502092303L), 60);
        Check.shows(x, "brackets(30, last)", "()".repeat(30));
        int[] word = new int[60];
        for (int i = 0; i < 60; i++) {
            word[i] = i % 2;
        }
        Check.sheet(x, 1, word);
        Check.fine(x, "order(1, 60)", x.order(1, 60), 3814986502092303L);
        Check.fine(x, "order(1, 58)", x.order(1, 58), 1002242216651367L);
        for (int i = 0; i < 60; i++) {
            Check.holds("write", x.write(1, i, i / 30));
        }
        Check.fine(x, "order(1, 60) of the first", x.order(1, 60), 0);
    }

    private static boolean closes(String word) {
        int depth = 0;
        for (int i = 0; i < word.length(); i++) {
            depth += word.charAt(i) == '(' ? 1 : -1;
            if (depth < 0) {
                return false;
            }
        }
        return depth == 0;
    }

    private static void promise32BracketsRefused() {
        WalkBench x = new WalkBench();
        Check.refused(x, "brackets(-1, 0)", x.brackets(-1, 0), 2);
        Check.refused(x, "brackets(31, -1), n ahead of the number", x.brackets(31, -1), 2);
        Check.refused(x, "brackets(3, -1)", x.brackets(3, -1), 8);
        Check.refused(x, "brackets(3, 5)", x.brackets(3, 5), 8);
        Check.refused(x, "brackets(0, 1)", x.brackets(0, 1), 8);
        Check.refused(x, "brackets(30, MAX)", x.brackets(30, Long.MAX_VALUE), 8);
        Check.refused(x, "brackets(30, 3814986502092304)", x.brackets(30, 3814986502092304L), 8);
        Check.refused(x, "brackets(3, MIN)", x.brackets(3, Long.MIN_VALUE), 8);
        Check.shows(x, "OUT after refused ones", "");
    }

    private static void promise33OrderRefused() {
        WalkBench x = new WalkBench();
        Check.refused(x, "order(4, 1)", x.order(4, 1), 1);
        Check.refused(x, "order(-1, 0)", x.order(-1, 0), 1);
        Check.refused(x, "order(0, 1), odd ahead of MISSING", x.order(0, 1), 2);
        Check.refused(x, "order(0, -1)", x.order(0, -1), 2);
        Check.refused(x, "order(0, -2)", x.order(0, -2), 2);
        Check.refused(x, "order(0, 62)", x.order(0, 62), 2);
        Check.refused(x, "order(0, 61)", x.order(0, 61), 2);
        Check.refused(x, "order(0, 2)", x.order(0, 2), 3);
        Check.sheet(x, 0, 0, 1, 1, 0);
        Check.refused(x, "order(0, 6)", x.order(0, 6), 4);
        Check.refused(x, "order(0, 4), more ) than (", x.order(0, 4), 8);
        Check.fine(x, "order(0, 2)", x.order(0, 2), 0);
        Check.fine(x, "order(0, 0)", x.order(0, 0), 0);
        Check.sheet(x, 0, 0, 0, 0, 1);
        Check.refused(x, "order(0, 4), more ( than )", x.order(0, 4), 8);
        Check.refused(x, "order(0, 2), ( alone", x.order(0, 2), 8);
        Check.sheet(x, 0, 0, -1);
        Check.refused(x, "order(0, 2), a number that is no bracket", x.order(0, 2), 8);
        Check.sheet(x, 0, 2, 1);
        Check.refused(x, "order(0, 2), another", x.order(0, 2), 8);
        int[] open = new int[60];
        Check.sheet(x, 0, open);
        Check.refused(x, "order(0, 60), ( alone", x.order(0, 60), 8);
    }
}
