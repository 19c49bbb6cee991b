/** Promises 1 to 6: a new object, STATUS and the SHEETS. */
public final class SheetTest {
    private SheetTest() {
    }

    public static void main(String[] args) {
        promise1NewObject();
        promise2Status();
        promise3Sheet();
        promise3SheetRefused();
        promise4And5WriteRead();
        promise4And5Refused();
        promise6Pour();
        promise6PourRefused();
        Check.end();
    }

    private static void promise1NewObject() {
        WalkBench x = new WalkBench();
        Check.same("status()", x.status(), 0);
        Check.same("NONE", WalkBench.NONE, -1);
        Check.shows(x, "a new object", "");
        for (int sheet = 0; sheet < 4; sheet++) {
            Check.refused(x, "read of a new object", x.read(sheet, 0), 3);
        }
        int[] dx = {1, 0, -1, 0};
        int[] dy = {0, 1, 0, -1};
        for (int k = 0; k < 4; k++) {
            Check.fine(x, "step(k, 0)", x.step(k, 0), dx[k]);
            Check.fine(x, "step(k, 1)", x.step(k, 1), dy[k]);
            Check.fine(x, "step(k, 2)", x.step(k, 2), 1);
        }
        Check.refused(x, "step(4, 0)", x.step(4, 0), 8);
        for (int px = -30; px <= 30; px += 1) {
            Check.same("open", x.open(px, -px), 1);
        }
        Check.fine(x, "count(0), A and B are (0, 0)", x.count(0), 1);
        Check.refused(x, "worth() without a FAMILY", x.worth(), 8);
        Check.refused(x, "part(1) without a RULE", x.part(1), 8);
        // TOP is 5 and ROUND is 6 at first
        Check.fine(x, "rule() between 0 and 5, with 2 level steps", x.rule(), topFiveRule());
    }

    private static long topFiveRule() {
        WalkBench x = new WalkBench();
        Check.holds("kind(2, 5)", x.kind(2, 5));
        return x.rule();
    }

    private static void promise2Status() {
        WalkBench x = new WalkBench();
        Check.refused(x, "sheet(4, 0, 1)", x.sheet(4, 0, 1), 1);
        Check.same("status() again", x.status(), 1);
        try {
            x.out(0);
        } catch (java.util.NoSuchElementException e) {
            Check.same("status() after out", x.status(), 1);
        }
        Check.fine(x, "open(0, 0)", x.open(0, 0), 1);
        Check.refused(x, "read(0, 0)", x.read(0, 0), 3);
        Check.fine(x, "brackets(1, 0)", x.brackets(1, 0), 2);
        Check.refused(x, "read(0, 0)", x.read(0, 0), 3);
        Check.same("out(0)", x.out(0), '(');
        Check.same("status() after an out that stands", x.status(), 3);
    }

    private static void promise3Sheet() {
        WalkBench x = new WalkBench();
        Check.fine(x, "sheet(0, 0, 64)", x.sheet(0, 0, 64));
        for (int i = 0; i < 64; i++) {
            Check.fine(x, "read(0, i)", x.read(0, i), 0);
        }
        Check.fine(x, "write(0, 63, 7)", x.write(0, 63, 7));
        Check.fine(x, "sheet(0, 1, 64) again", x.sheet(0, 1, 64));
        Check.fine(x, "read(0, 63)", x.read(0, 63), 0);
        Check.fine(x, "sheet(3, 2, 0)", x.sheet(3, 2, 0));
        Check.refused(x, "read(3, 0), a SHEET of no numbers", x.read(3, 0), 4);
        Check.refused(x, "read(2, 0), a SHEET that is MISSING", x.read(2, 0), 3);
        Check.fine(x, "sheet(0, 1, 2) again", x.sheet(0, 1, 2));
        Check.refused(x, "read(0, 2)", x.read(0, 2), 4);
    }

    private static void promise3SheetRefused() {
        WalkBench x = new WalkBench();
        Check.refused(x, "sheet(-1, 0, 1)", x.sheet(-1, 0, 1), 1);
        Check.refused(x, "sheet(4, 0, 1)", x.sheet(4, 0, 1), 1);
        Check.refused(x, "sheet(0, -1, 1)", x.sheet(0, -1, 1), 1);
        Check.refused(x, "sheet(0, 3, 1)", x.sheet(0, 3, 1), 1);
        Check.refused(x, "sheet(0, 3, 65)", x.sheet(0, 3, 65), 1);
        Check.refused(x, "sheet(0, 0, 65)", x.sheet(0, 0, 65), 2);
        Check.refused(x, "sheet(0, 0, MAX)", x.sheet(0, 0, Integer.MAX_VALUE), 2);
        Check.refused(x, "sheet(0, 0, -1)", x.sheet(0, 0, -1), 6);
        Check.refused(x, "sheet(0, 0, MIN)", x.sheet(0, 0, Integer.MIN_VALUE), 6);
        Check.refused(x, "read(0, 0)", x.read(0, 0), 3);
        Check.sheet(x, 0, 5, 6);
        Check.refused(x, "sheet(0, 0, 65)", x.sheet(0, 0, 65), 2);
        Check.fine(x, "read(0, 1) after a refused sheet", x.read(0, 1), 6);
    }

    private static void promise4And5WriteRead() {
        WalkBench x = new WalkBench();
        int[][] cut = {
            {0, 127, 127}, {0, 128, -128}, {0, 255, -1}, {0, 256, 0}, {0, -129, 127}, {0, 0x12345678, 0x78},
            {1, 32767, 32767}, {1, 32768, -32768}, {1, 65535, -1}, {1, -32769, 32767}, {1, 0x12345678, 0x5678},
            {2, Integer.MAX_VALUE, Integer.MAX_VALUE}, {2, Integer.MIN_VALUE, Integer.MIN_VALUE}, {2, -1, -1},
        };
        for (int[] row : cut) {
            Check.fine(x, "sheet", x.sheet(1, row[0], 3));
            Check.fine(x, "write", x.write(1, 2, row[1]));
            Check.fine(x, "read of " + row[1] + ", sort " + row[0], x.read(1, 2), row[2]);
            Check.fine(x, "read of the place ahead", x.read(1, 1), 0);
        }
        Check.fine(x, "write(1, 0, 9)", x.write(1, 0, 9));
        Check.fine(x, "sheet(2, 2, 3)", x.sheet(2, 2, 3));
        Check.fine(x, "read(2, 0), another SHEET", x.read(2, 0), 0);
    }

    private static void promise4And5Refused() {
        WalkBench x = new WalkBench();
        Check.refused(x, "write(-1, 0, 1)", x.write(-1, 0, 1), 1);
        Check.refused(x, "write(4, -1, 1)", x.write(4, -1, 1), 1);
        Check.refused(x, "write(0, -1, 1)", x.write(0, -1, 1), 3);
        Check.refused(x, "read(-1, 0)", x.read(-1, 0), 1);
        Check.refused(x, "read(4, 0)", x.read(4, 0), 1);
        Check.refused(x, "read(0, -1)", x.read(0, -1), 3);
        Check.sheet(x, 0, 1, 2, 3);
        Check.refused(x, "write(0, 3, 1)", x.write(0, 3, 1), 4);
        Check.refused(x, "write(0, -1, 1)", x.write(0, -1, 1), 4);
        Check.refused(x, "write(0, MAX, 1)", x.write(0, Integer.MAX_VALUE, 1), 4);
        Check.refused(x, "write(0, MIN, 1)", x.write(0, Integer.MIN_VALUE, 1), 4);
        Check.refused(x, "read(0, 3)", x.read(0, 3), 4);
        Check.refused(x, "read(0, -1)", x.read(0, -1), 4);
        Check.refused(x, "read(0, MAX)", x.read(0, Integer.MAX_VALUE), 4);
        Check.fine(x, "read(0, 2)", x.read(0, 2), 3);
    }

    private static void promise6Pour() {
        WalkBench x = new WalkBench();
        Check.sheet(x, 0, 1, 2, 3, 4, 5);
        Check.sheet(x, 1, 9, 9, 9);
        Check.fine(x, "pour(0, 1, 1, 0, 3)", x.pour(0, 1, 1, 0, 3));
        reads(x, 1, 2, 3, 4);
        reads(x, 0, 1, 2, 3, 4, 5);
        Check.fine(x, "pour onto itself, forward", x.pour(0, 0, 0, 1, 4));
        reads(x, 0, 1, 1, 2, 3, 4);
        Check.fine(x, "pour onto itself, backward", x.pour(0, 2, 0, 0, 3));
        reads(x, 0, 2, 3, 4, 3, 4);
        Check.fine(x, "pour of none", x.pour(0, 5, 1, 3, 0));
        reads(x, 1, 2, 3, 4);
    }

    private static void promise6PourRefused() {
        WalkBench x = new WalkBench();
        Check.refused(x, "pour from no SHEET", x.pour(4, 0, 0, 0, 1), 1);
        Check.refused(x, "pour to no SHEET", x.pour(0, 0, -1, 0, 1), 1);
        Check.refused(x, "pour of a MISSING one", x.pour(0, 0, 1, 0, -1), 3);
        Check.sheet(x, 0, 1, 2, 3);
        Check.refused(x, "pour to a MISSING one", x.pour(0, 0, 1, 0, -1), 3);
        Check.refused(x, "pour from a MISSING one", x.pour(1, 0, 0, 0, -1), 3);
        Check.holds("sheet(1, 1, 3)", x.sheet(1, 1, 3));
        Check.refused(x, "pour, sorts ahead of below 0", x.pour(0, 0, 1, 0, -1), 11);
        Check.refused(x, "pour, sorts ahead of a place", x.pour(0, 9, 1, 9, 1), 11);
        Check.sheet(x, 1, 7, 8);
        Check.refused(x, "pour, below 0 ahead of a place", x.pour(0, 9, 1, 9, -1), 6);
        Check.refused(x, "pour of too many", x.pour(0, 0, 1, 0, 3), 4);
        Check.refused(x, "pour beyond the end", x.pour(0, 2, 1, 0, 2), 4);
        Check.refused(x, "pour to beyond the end", x.pour(0, 0, 1, 1, 2), 4);
        Check.refused(x, "pour from below", x.pour(0, -1, 1, 0, 1), 4);
        Check.refused(x, "pour to below", x.pour(0, 0, 1, -1, 1), 4);
        Check.refused(x, "pour of MAX", x.pour(0, 1, 1, 1, Integer.MAX_VALUE), 4);
        Check.refused(x, "pour from MAX", x.pour(0, Integer.MAX_VALUE, 1, 0, 1), 4);
        reads(x, 0, 1, 2, 3);
        reads(x, 1, 7, 8);
    }

    private static void reads(WalkBench x, int sheet, int... due) {
        for (int i = 0; i < due.length; i++) {
            Check.fine(x, "read(" + sheet + ", " + i + ")", x.read(sheet, i), due[i]);
        }
    }
}
