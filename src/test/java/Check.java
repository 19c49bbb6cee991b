import java.util.NoSuchElementException;

/** What the tests share: it counts answers that are not as due, and ends the program with 1 if there was one. */
final class Check {
    private static int asked;
    private static int wrong;

    private Check() {
    }

    static void same(String what, long got, long due) {
        asked++;
        if (got != due) {
            wrong++;
            System.out.println(what + " answered " + got + ", due is " + due);
        }
    }

    static void holds(String what, boolean got) {
        same(what, got ? 1 : 0, 1);
    }

    /** An answer of a call that stands: STATUS is 0. */
    static void fine(WalkBench x, String what, long got, long due) {
        same(what, got, due);
        same("status() after " + what, x.status(), 0);
    }

    static void fine(WalkBench x, String what, boolean got) {
        fine(x, what, got ? 1 : 0, 1);
    }

    /** A call that is refused with a STATUS. */
    static void refused(WalkBench x, String what, long got, int status) {
        same(what, got, WalkBench.NONE);
        same("status() after " + what, x.status(), status);
    }

    static void refused(WalkBench x, String what, boolean got, int status) {
        same(what, got ? 1 : 0, 0);
        same("status() after " + what, x.status(), status);
    }

    /** OUT, byte after byte, as a text. */
    static String shown(WalkBench x) {
        StringBuilder text = new StringBuilder();
        try {
            for (int k = 0; k < 1000; k++) {
                text.append((char) x.out(k));
            }
        } catch (NoSuchElementException e) {
            return text.toString();
        }
        return "OUT has no end";
    }

    static void shows(WalkBench x, String what, String due) {
        String got = shown(x);
        asked++;
        if (!got.equals(due)) {
            wrong++;
            System.out.println(what + " shows '" + got + "', due is '" + due + "'");
        }
    }

    /** Fills a SHEET of 32 bits with these numbers. */
    static void sheet(WalkBench x, int sheet, int... numbers) {
        holds("sheet(" + sheet + ")", x.sheet(sheet, 2, numbers.length));
        for (int i = 0; i < numbers.length; i++) {
            holds("write(" + sheet + ", " + i + ")", x.write(sheet, i, numbers[i]));
        }
    }

    /** Makes STEPS of these numbers, dx and dy in turn, by SHEET 3. */
    static void steps(WalkBench x, int... numbers) {
        sheet(x, 3, numbers);
        holds("steps(3, " + numbers.length / 2 + ")", x.steps(3, numbers.length / 2));
    }

    static void end() {
        System.out.println(asked + " answers asked, " + wrong + " not as due");
        if (wrong > 0 || asked == 0) {
            System.exit(1);
        }
    }
}
