import java.util.NoSuchElementException;

/** A bench for walks over the squares of a plane; ../shared/DOC.md says what each call does. */
public final class WalkBench {
    public static final int NONE = -1;

    // STATUS, by the numbers of Terms 3
    private static final int FINE = 0;
    private static final int NO_SHEET = 1;
    private static final int BAD_NUMBER = 2;
    private static final int MISSING = 3;
    private static final int NOT_IN_SHEET = 4;
    private static final int OTHER_KIND = 5;
    private static final int BELOW_ZERO = 6;
    private static final int NOT_OPEN = 7;
    private static final int NONE_SUCH = 8;
    private static final int TOO_GREAT = 9;
    private static final int TOO_FAR = 10;
    private static final int UNLIKE_SORTS = 11;

    private static final int KIND_HALF = 1;
    private static final int KIND_STRIP = 2;
    private static final int KIND_CORNER = 3;
    private static final int KIND_RING = 4;

    // weight 0, TOUCHES, is what is left when none of these is asked
    private static final int WEIGHT_TURNS = 1;
    private static final int WEIGHT_AREA = 2;
    private static final int WEIGHT_TOLD = 3;

    private static final int SHEETS = 4;
    private static final int SHEET_MOST = 64;
    private static final int EDGE = 30;
    private static final int STEPS_MOST = 8;
    private static final int STEP_FAR = 3;
    private static final int WALK_MOST = 60;
    private static final int WEIGHED_MOST = 14;
    private static final int WEIGHT_MOST = 120;
    private static final int TOLD_MOST = 9;
    private static final int FAMILY_MOST = 4;
    private static final int TABLE_MOST = 20000;
    private static final int BOX_MOST = 6;
    private static final int PAIRS_MOST = 30;
    private static final int OUT_MOST = 60;
    private static final int DRAWS_MOST = 64;
    private static final long GREAT = 1L << 62;

    // CELLS are the squares with a margin of closed cells as wide as the longest step,
    // so that one step from a square always ends in a cell
    private static final int CENTRE = EDGE + STEP_FAR;
    private static final int WIDTH = 2 * CENTRE + 1;
    private static final int CELLS = WIDTH * WIDTH;

    private final Sheets sheets = new Sheets();
    private final Plane plane = new Plane();
    private final Family kin = new Family();
    private final Heights heights = new Heights();
    private final Levels levels = new Levels();
    private final Brackets words = new Brackets();
    private final int[] shown = new int[OUT_MOST];
    private final int[] powers = new int[3 * BOX_MOST];
    private int shownCount;
    private int status;
    // these two are large, so they are made when a call first needs them
    private Ways ways;
    private Weigher weigher;

    public WalkBench() {
    }

    public int status() {
        return status;
    }

    // ---- SHEETS

    public boolean sheet(int sheet, int sort, int many) {
        if (!Sheets.known(sheet) || !within(sort, 0, 2)) {
            return denied(NO_SHEET);
        }
        if (many > SHEET_MOST) {
            return denied(BAD_NUMBER);
        }
        if (many < 0) {
            return denied(BELOW_ZERO);
        }
        sheets.lay(sheet, sort, many);
        return granted();
    }

    public boolean write(int sheet, int place, int v) {
        int fault = placeFault(sheet, place);
        if (fault != FINE) {
            return denied(fault);
        }
        sheets.put(sheet, place, v);
        return granted();
    }

    public int read(int sheet, int place) {
        int fault = placeFault(sheet, place);
        if (fault != FINE) {
            return refused(fault);
        }
        return given(sheets.at(sheet, place));
    }

    public boolean pour(int sheet, int i, int to, int j, int many) {
        if (!Sheets.known(sheet) || !Sheets.known(to)) {
            return denied(NO_SHEET);
        }
        if (sheets.missing(sheet) || sheets.missing(to)) {
            return denied(MISSING);
        }
        if (sheets.sortOf(sheet) != sheets.sortOf(to)) {
            return denied(UNLIKE_SORTS);
        }
        if (many < 0) {
            return denied(BELOW_ZERO);
        }
        if (!sheets.holds(sheet, i, many) || !sheets.holds(to, j, many)) {
            return denied(NOT_IN_SHEET);
        }
        sheets.move(sheet, i, to, j, many);
        return granted();
    }

    // ---- the plane

    public boolean steps(int sheet, int many) {
        int fault = sheetFault(sheet);
        if (fault != FINE) {
            return denied(fault);
        }
        if (!within(many, 1, STEPS_MOST)) {
            return denied(BAD_NUMBER);
        }
        if (!sheets.holds(sheet, 0, 2 * many)) {
            return denied(NOT_IN_SHEET);
        }
        if (!areSteps(sheet, many)) {
            return denied(BAD_NUMBER);
        }
        for (int k = 0; k < many; k++) {
            plane.setStep(k, sheets.at(sheet, 2 * k), sheets.at(sheet, 2 * k + 1));
        }
        plane.setStepCount(many);
        forgetWays();
        return granted();
    }

    public int step(int k, int what) {
        if (!within(what, 0, 2)) {
            return refused(BAD_NUMBER);
        }
        if (!plane.hasStep(k)) {
            return refused(NONE_SUCH);
        }
        if (what == 0) {
            return given(plane.dx[k]);
        }
        return given(what == 1 ? plane.dy[k] : plane.weights[k]);
    }

    public boolean told(int k, int weight) {
        if (!plane.hasStep(k)) {
            return denied(NONE_SUCH);
        }
        if (!within(weight, 0, TOLD_MOST)) {
            return denied(BAD_NUMBER);
        }
        plane.weights[k] = weight;
        return granted();
    }

    public boolean kind(int kind, int size) {
        if (!within(kind, 0, KIND_RING)) {
            return denied(BAD_NUMBER);
        }
        int least = kind == KIND_RING ? 1 : 0;
        int most = kind == KIND_STRIP || kind == KIND_RING ? EDGE : 0;
        if (!within(size, least, most)) {
            return denied(BAD_NUMBER);
        }
        plane.setKind(kind, size);
        forgetWays();
        return granted();
    }

    public boolean bar(int x, int y, boolean on) {
        if (!Plane.isSquare(x, y)) {
            return denied(BAD_NUMBER);
        }
        plane.setBarred(x, y, on);
        forgetWays();
        return granted();
    }

    public int wall(int sheet, int many) {
        int fault = sheetFault(sheet);
        if (fault != FINE) {
            return refused(fault);
        }
        if (many < 0) {
            return refused(BAD_NUMBER);
        }
        if (many > SHEET_MOST || !sheets.holds(sheet, 0, 2 * many)) {
            return refused(NOT_IN_SHEET);
        }
        for (int k = 0; k < many; k++) {
            if (!Plane.isSquare(sheets.at(sheet, 2 * k), sheets.at(sheet, 2 * k + 1))) {
                return refused(BAD_NUMBER);
            }
        }
        int before = plane.barredCount;
        for (int k = 0; k < many; k++) {
            plane.setBarred(sheets.at(sheet, 2 * k), sheets.at(sheet, 2 * k + 1), true);
        }
        forgetWays();
        return given(plane.barredCount - before);
    }

    public boolean from(int x, int y) {
        if (!Plane.isSquare(x, y)) {
            return denied(BAD_NUMBER);
        }
        plane.ax = x;
        plane.ay = y;
        return granted();
    }

    public boolean to(int x, int y) {
        if (!Plane.isSquare(x, y)) {
            return denied(BAD_NUMBER);
        }
        plane.bx = x;
        plane.by = y;
        forgetWays();
        return granted();
    }

    public int open(int x, int y) {
        if (!Plane.isSquare(x, y)) {
            return refused(BAD_NUMBER);
        }
        return given(plane.isOpen(x, y) ? 1 : 0);
    }

    // ---- counts

    public long count(int n) {
        int fault = walkFault(n, WALK_MOST);
        if (fault != FINE) {
            return refused(fault);
        }
        return givenUnlessGreat(waysFor(n).onward(n, plane.cellA()));
    }

    public long all(int n) {
        if (!within(n, 0, WALK_MOST)) {
            return refused(BAD_NUMBER);
        }
        if (!plane.isOpen(plane.ax, plane.ay)) {
            return refused(NOT_OPEN);
        }
        return givenUnlessGreat(waysKept().anywhere(n));
    }

    public int least() {
        if (!plane.endsOpen()) {
            return refused(NOT_OPEN);
        }
        for (int n = 0; n <= WALK_MOST; n++) {
            if (waysFor(n).onward(n, plane.cellA()) > 0) {
                return given(n);
            }
        }
        return refused(NONE_SUCH);
    }

    public long sum(int weight, int n, int k) {
        if (!within(k, 0, WEIGHT_MOST)) {
            return refused(BAD_NUMBER);
        }
        int fault = weighFault(weight, n);
        if (fault != FINE) {
            return refused(fault);
        }
        if (waysFor(n).onward(n, plane.cellA()) == 0) {
            return givenLong(0);
        }
        return givenLong(weigherKept().tallied(weight, n, k));
    }

    public int best(int weight, int n, boolean greatest) {
        int fault = weighFault(weight, n);
        if (fault != FINE) {
            return refused(fault);
        }
        if (waysFor(n).onward(n, plane.cellA()) == 0) {
            return refused(NONE_SUCH);
        }
        return given(weigherKept().extreme(weight, n, greatest));
    }

    public int walk(int n, long k) {
        int fault = walkFault(n, WALK_MOST);
        if (fault != FINE) {
            return refused(fault);
        }
        if (k < 0) {
            return refused(NONE_SUCH);
        }
        long total = waysFor(n).onward(n, plane.cellA());
        if (total >= GREAT) {
            return refused(TOO_GREAT);
        }
        if (k >= total) {
            return refused(NONE_SUCH);
        }
        showWalk(n, k);
        return given(n);
    }

    public long number(int sheet, int many) {
        int fault = rowFault(sheet, many, WALK_MOST);
        if (fault != FINE) {
            return refused(fault);
        }
        if (!plane.endsOpen()) {
            return refused(NOT_OPEN);
        }
        if (!isWalk(sheet, many)) {
            return refused(NONE_SUCH);
        }
        if (waysFor(many).onward(many, plane.cellA()) >= GREAT) {
            return refused(TOO_GREAT);
        }
        return givenLong(walkNumber(sheet, many));
    }

    public long draw(int n, int seed) {
        if (seed < 0) {
            return refused(BAD_NUMBER);
        }
        int fault = walkFault(n, WALK_MOST);
        if (fault != FINE) {
            return refused(fault);
        }
        long total = waysFor(n).onward(n, plane.cellA());
        if (total <= 0) {
            return refused(NONE_SUCH);
        }
        if (total >= GREAT) {
            return refused(TOO_GREAT);
        }
        return givenLong(drawn(total, seed));
    }

    public long mirror(int n, int which) {
        if (n < 0 || !within(which, 0, 1)) {
            return refused(BAD_NUMBER);
        }
        if (plane.kind != KIND_HALF || !plane.stepsMirrored()) {
            return refused(OTHER_KIND);
        }
        if (!plane.endsOpen() || plane.barredCount > 0) {
            return refused(NOT_OPEN);
        }
        if ((long) n + plane.ay > 28 || 3L * n + Math.abs(plane.ax) > 30) {
            return refused(TOO_FAR);
        }
        int endY = which == 0 ? plane.by : -2 - plane.by;
        return givenLong(heights.mirrored(plane, n, endY));
    }

    public long first(int n) {
        int fault = comingFault(n);
        if (fault != FINE) {
            return refused(fault);
        }
        return givenUnlessGreat(heights.comings(plane, n, true));
    }

    public long turnings(int n) {
        int fault = comingFault(n);
        if (fault != FINE) {
            return refused(fault);
        }
        return givenUnlessGreat(heights.comings(plane, n, false));
    }

    // ---- families, boxes, brackets

    public boolean family(int many) {
        if (!within(many, 1, FAMILY_MOST)) {
            return denied(BAD_NUMBER);
        }
        kin.begin(many);
        return granted();
    }

    public boolean place(int k, boolean end, int x, int y) {
        if (!Plane.isSquare(x, y)) {
            return denied(BAD_NUMBER);
        }
        if (!kin.has(k)) {
            return denied(NONE_SUCH);
        }
        kin.setPlace(k, end, x, y);
        return granted();
    }

    public int table(int i, int j) {
        if (!kin.has(i) || !kin.has(j)) {
            return refused(NONE_SUCH);
        }
        if (kin.barredAt(plane, i, j)) {
            return refused(NOT_OPEN);
        }
        int found = kin.entry(plane, i, j);
        return found > TABLE_MOST ? refused(TOO_GREAT) : given(found);
    }

    public long worth() {
        if (!kin.has(0)) {
            return refused(NONE_SUCH);
        }
        if (kin.anyBarred(plane)) {
            return refused(NOT_OPEN);
        }
        if (!kin.fillTable(plane)) {
            return refused(TOO_GREAT);
        }
        return givenLong(kin.determinant());
    }

    public long boxes(int a, int b, int c) {
        if (!within(a, 0, BOX_MOST) || !within(b, 0, BOX_MOST) || !within(c, 0, BOX_MOST)) {
            return refused(BAD_NUMBER);
        }
        return givenLong(heaped(a, b, c));
    }

    public int brackets(int n, long k) {
        if (!within(n, 0, PAIRS_MOST)) {
            return refused(BAD_NUMBER);
        }
        if (k < 0 || k >= words.endings(2 * n, 0)) {
            return refused(NONE_SUCH);
        }
        words.spell(n, k, shown);
        shownCount = 2 * n;
        return given(shownCount);
    }

    public long order(int sheet, int many) {
        if (Sheets.known(sheet) && (many & 1) != 0) {
            return refused(BAD_NUMBER);
        }
        int fault = rowFault(sheet, many, 2 * PAIRS_MOST);
        if (fault != FINE) {
            return refused(fault);
        }
        long found = words.numberOf(sheets, sheet, many);
        return found < 0 ? refused(NONE_SUCH) : givenLong(found);
    }

    // ---- between two lines

    public int far(long n) {
        if (n < 0) {
            return refused(BAD_NUMBER);
        }
        if (!plane.endsBetweenLines()) {
            return refused(NOT_OPEN);
        }
        return given(levels.after(plane, n));
    }

    public int rule() {
        if (!plane.endsBetweenLines()) {
            return refused(NOT_OPEN);
        }
        return given(levels.keepRule(plane));
    }

    public int part(int k) {
        if (!levels.keeps(k)) {
            return refused(NONE_SUCH);
        }
        return given(levels.kept(k));
    }

    public int out(int k) throws NoSuchElementException {
        if (k < 0 || k >= shownCount || k >= OUT_MOST) {
            throw new NoSuchElementException();
        }
        return shown[k];
    }

    // ---- answers

    private boolean denied(int fault) {
        status = fault;
        return false;
    }

    private int refused(int fault) {
        status = fault;
        return NONE;
    }

    private boolean granted() {
        status = FINE;
        return true;
    }

    private int given(int answer) {
        status = FINE;
        return answer;
    }

    private long givenLong(long answer) {
        status = FINE;
        return answer;
    }

    private long givenUnlessGreat(long answer) {
        return answer >= GREAT ? refused(TOO_GREAT) : givenLong(answer);
    }

    // ---- what a call is refused for

    private static boolean within(int v, int least, int most) {
        return v >= least && v <= most;
    }

    private int sheetFault(int sheet) {
        if (!Sheets.known(sheet)) {
            return NO_SHEET;
        }
        return sheets.missing(sheet) ? MISSING : FINE;
    }

    private int placeFault(int sheet, int place) {
        int fault = sheetFault(sheet);
        if (fault != FINE) {
            return fault;
        }
        return sheets.holds(sheet, place, 1) ? FINE : NOT_IN_SHEET;
    }

    private int rowFault(int sheet, int many, int most) {
        if (!Sheets.known(sheet)) {
            return NO_SHEET;
        }
        if (!within(many, 0, most)) {
            return BAD_NUMBER;
        }
        if (sheets.missing(sheet)) {
            return MISSING;
        }
        return sheets.holds(sheet, 0, many) ? FINE : NOT_IN_SHEET;
    }

    private int walkFault(int n, int most) {
        if (!within(n, 0, most)) {
            return BAD_NUMBER;
        }
        return plane.endsOpen() ? FINE : NOT_OPEN;
    }

    private int weighFault(int weight, int n) {
        if (!within(weight, 0, WEIGHT_TOLD) || !within(n, 0, WEIGHED_MOST)) {
            return BAD_NUMBER;
        }
        if (weight == WEIGHT_AREA && !within(plane.kind, KIND_HALF, KIND_CORNER)) {
            return OTHER_KIND;
        }
        return plane.endsOpen() ? FINE : NOT_OPEN;
    }

    private int comingFault(int n) {
        if (!within(n, 1, WALK_MOST)) {
            return BAD_NUMBER;
        }
        if (plane.stepsFallDeep()) {
            return OTHER_KIND;
        }
        return plane.ay <= 0 ? NOT_OPEN : FINE;
    }

    private boolean areSteps(int sheet, int many) {
        for (int k = 0; k < many; k++) {
            int x = sheets.at(sheet, 2 * k);
            int y = sheets.at(sheet, 2 * k + 1);
            if (!within(x, -STEP_FAR, STEP_FAR) || !within(y, -STEP_FAR, STEP_FAR) || (x == 0 && y == 0)) {
                return false;
            }
            for (int j = 0; j < k; j++) {
                if (sheets.at(sheet, 2 * j) == x && sheets.at(sheet, 2 * j + 1) == y) {
                    return false;
                }
            }
        }
        return true;
    }

    // ---- walks by their numbers

    private Ways waysKept() {
        if (ways == null) {
            ways = new Ways(plane);
        }
        return ways;
    }

    private Ways waysFor(int n) {
        Ways kept = waysKept();
        kept.prepare(n);
        return kept;
    }

    private void forgetWays() {
        if (ways != null) {
            ways.forget();
        }
    }

    private Weigher weigherKept() {
        if (weigher == null) {
            weigher = new Weigher(plane, waysKept());
        }
        return weigher;
    }

    private boolean isWalk(int sheet, int many) {
        int cell = plane.cellA();
        for (int i = 0; i < many; i++) {
            int k = sheets.at(sheet, i);
            if (!plane.hasStep(k)) {
                return false;
            }
            cell = plane.ahead(cell, k);
            if (cell < 0) {
                return false;
            }
        }
        return cell == plane.cellB();
    }

    private long walkNumber(int sheet, int many) {
        long found = 0;
        int cell = plane.cellA();
        for (int i = 0; i < many; i++) {
            int taken = sheets.at(sheet, i);
            for (int k = 0; k < taken; k++) {
                found += waysKept().onward(many - i - 1, plane.ahead(cell, k));
            }
            cell = plane.ahead(cell, taken);
        }
        return found;
    }

    private void showWalk(int n, long k) {
        long left = k;
        int cell = plane.cellA();
        for (int i = 0; i < n && i < OUT_MOST; i++) {
            int taken = 0;
            long those = waysKept().onward(n - i - 1, plane.ahead(cell, 0));
            while (left >= those && taken + 1 < plane.stepCount) {
                left -= those;
                taken++;
                those = waysKept().onward(n - i - 1, plane.ahead(cell, taken));
            }
            shown[i] = '0' + taken;
            cell = plane.ahead(cell, taken);
        }
        shownCount = n;
    }

    private static long drawn(long total, int seed) {
        long s = seed;
        long mask = 0;
        for (int bits = 0; bits < 62 && mask < total - 1; bits++) {
            mask = 2 * mask + 1;
        }
        long drawn = 0;
        for (int i = 0; i < DRAWS_MOST; i++) {
            drawn = 0;
            for (int j = 0; j < 5; j++) {
                s = (1103515245L * s + 12345L) & 0x7fffffffL;
                drawn = (drawn << 15) | ((s >> 16) & 0x7fffL);
            }
            drawn &= mask;
            if (drawn < total) {
                return drawn;
            }
        }
        return total > 0 ? drawn % total : 0;
    }

    // ---- boxes

    /** The product of (i + j + c - 1) / (i + j - 1), by the powers of its factors so that it stays whole. */
    private long heaped(int a, int b, int c) {
        for (int m = 0; m < powers.length; m++) {
            powers[m] = 0;
        }
        for (int i = 1; i <= a; i++) {
            for (int j = 1; j <= b; j++) {
                powers[i + j + c - 1]++;
                powers[i + j - 1]--;
            }
        }
        long product = 1;
        for (int m = powers.length - 1; m >= 2; m--) {
            int divisor = leastDivisor(m);
            if (divisor < m) {
                powers[divisor] += powers[m];
                powers[m / divisor] += powers[m];
                powers[m] = 0;
            }
        }
        for (int m = 2; m < powers.length; m++) {
            for (int i = 0; i < powers[m]; i++) {
                product *= m;
            }
        }
        return product;
    }

    private static int leastDivisor(int m) {
        for (int d = 2; d * d <= m; d++) {
            if (m % d == 0) {
                return d;
            }
        }
        return m;
    }

    /** The four rows of numbers. */
    private static final class Sheets {
        private final int[] numbers = new int[SHEETS * SHEET_MOST];
        private final int[] sorts = new int[SHEETS];
        private final int[] lengths = new int[SHEETS];

        Sheets() {
            for (int i = 0; i < SHEETS; i++) {
                lengths[i] = -1;
            }
        }

        static boolean known(int sheet) {
            return sheet >= 0 && sheet < SHEETS;
        }

        boolean missing(int sheet) {
            return !known(sheet) || lengths[sheet] < 0;
        }

        int sortOf(int sheet) {
            return known(sheet) ? sorts[sheet] : -1;
        }

        boolean holds(int sheet, int place, int many) {
            return known(sheet) && place >= 0 && many >= 0 && (long) place + many <= lengths[sheet];
        }

        void lay(int sheet, int sort, int many) {
            if (!known(sheet)) {
                return;
            }
            sorts[sheet] = sort;
            lengths[sheet] = many;
            for (int i = 0; i < SHEET_MOST; i++) {
                numbers[sheet * SHEET_MOST + i] = 0;
            }
        }

        void put(int sheet, int place, int v) {
            if (!holds(sheet, place, 1)) {
                return;
            }
            int cut = v;
            if (sorts[sheet] == 0) {
                cut = (byte) v;
            } else if (sorts[sheet] == 1) {
                cut = (short) v;
            }
            numbers[sheet * SHEET_MOST + place] = cut;
        }

        int at(int sheet, int place) {
            return holds(sheet, place, 1) ? numbers[sheet * SHEET_MOST + place] : 0;
        }

        void move(int sheet, int i, int to, int j, int many) {
            if (holds(sheet, i, many) && holds(to, j, many)) {
                System.arraycopy(numbers, sheet * SHEET_MOST + i, numbers, to * SHEET_MOST + j, many);
            }
        }
    }

    /** The squares, what bars them, the steps, the kind, A and B. */
    private static final class Plane {
        final int[] dx = {1, 0, -1, 0, 0, 0, 0, 0};
        final int[] dy = {0, 1, 0, -1, 0, 0, 0, 0};
        final int[] weights = {1, 1, 1, 1, 1, 1, 1, 1};
        // how many cells further on a step leads, where it does not go over the seam of a ring
        final int[] leaps = {1, WIDTH, -1, -WIDTH, 0, 0, 0, 0};
        int stepCount = 4;
        int kind;
        int top = 5;
        int round = 6;
        int barredCount;
        int ax;
        int ay;
        int bx;
        int by;
        private final byte[] barred = new byte[CELLS];
        private final byte[] passable = new byte[CELLS];

        Plane() {
            renew();
        }

        static boolean isSquare(int x, int y) {
            return x >= -EDGE && x <= EDGE && y >= -EDGE && y <= EDGE;
        }

        static int cellOf(int x, int y) {
            return (y + CENTRE) * WIDTH + x + CENTRE;
        }

        int cellA() {
            return cellOf(ax, ay);
        }

        int cellB() {
            return cellOf(bx, by);
        }

        boolean hasStep(int k) {
            return k >= 0 && k < stepCount && k < STEPS_MOST;
        }

        void setStep(int k, int x, int y) {
            if (k >= 0 && k < STEPS_MOST) {
                dx[k] = x;
                dy[k] = y;
                leaps[k] = y * WIDTH + x;
                weights[k] = 1;
            }
        }

        void setStepCount(int many) {
            stepCount = Math.min(many, STEPS_MOST);
        }

        void setKind(int newKind, int size) {
            kind = newKind;
            if (kind == KIND_STRIP) {
                top = size;
            } else if (kind == KIND_RING) {
                round = size;
            }
            renew();
        }

        private boolean inKind(int x, int y) {
            switch (kind) {
                case KIND_HALF:
                    return y >= 0;
                case KIND_STRIP:
                    return y >= 0 && y <= top;
                case KIND_CORNER:
                    return x >= 0 && y >= 0;
                case KIND_RING:
                    return x >= 0 && x < round;
                default:
                    return true;
            }
        }

        private void renew() {
            for (int y = -EDGE; y <= EDGE; y++) {
                for (int x = -EDGE; x <= EDGE; x++) {
                    renewSquare(x, y);
                }
            }
        }

        private void renewSquare(int x, int y) {
            int cell = cellOf(x, y);
            passable[cell] = (byte) (inKind(x, y) && barred[cell] == 0 ? 1 : 0);
        }

        void setBarred(int x, int y, boolean on) {
            if (!isSquare(x, y) || isBarred(x, y) == on) {
                return;
            }
            barred[cellOf(x, y)] = (byte) (on ? 1 : 0);
            barredCount += on ? 1 : -1;
            renewSquare(x, y);
        }

        boolean isBarred(int x, int y) {
            return isSquare(x, y) && barred[cellOf(x, y)] != 0;
        }

        boolean isOpen(int x, int y) {
            return isSquare(x, y) && passable[cellOf(x, y)] != 0;
        }

        boolean endsOpen() {
            return isOpen(ax, ay) && isOpen(bx, by);
        }

        boolean endsBetweenLines() {
            return ay >= 0 && ay <= top && by >= 0 && by <= top;
        }

        boolean isPassable(int cell) {
            return cell >= 0 && cell < CELLS && passable[cell] != 0;
        }

        /** The cell that step k leads to from an open cell, or -1 where that is not open. */
        int ahead(int cell, int k) {
            if (!hasStep(k)) {
                return -1;
            }
            int there = cell + leaps[k];
            if (kind == KIND_RING && round > 0) {
                int x = cell % WIDTH - CENTRE;
                there += Math.floorMod(x + dx[k], round) - (x + dx[k]);
            }
            return isPassable(there) ? there : -1;
        }

        /** How many rows up or down the steps lead at most. */
        int tallestStep() {
            int tallest = 0;
            for (int k = 0; k < stepCount && k < STEPS_MOST; k++) {
                tallest = Math.max(tallest, Math.abs(dy[k]));
            }
            return tallest;
        }

        boolean stepsFallDeep() {
            for (int k = 0; k < stepCount && k < STEPS_MOST; k++) {
                if (dy[k] < -1) {
                    return true;
                }
            }
            return false;
        }

        boolean stepsMirrored() {
            for (int k = 0; k < stepCount && k < STEPS_MOST; k++) {
                if ((dy[k] != 1 && dy[k] != -1) || !hasStepOf(dx[k], -dy[k])) {
                    return false;
                }
            }
            return true;
        }

        private boolean hasStepOf(int x, int y) {
            for (int k = 0; k < stepCount && k < STEPS_MOST; k++) {
                if (dx[k] == x && dy[k] == y) {
                    return true;
                }
            }
            return false;
        }
    }

    /** How many walks lead on to B, by how many steps are left; counts stay at GREAT once they come to it. */
    private static final class Ways {
        private final Plane plane;
        private final long[] layers = new long[(WALK_MOST + 1) * CELLS];
        private final long[] spreading = new long[2 * CELLS];
        private int ready;

        Ways(Plane plane) {
            this.plane = plane;
        }

        void forget() {
            ready = 0;
        }

        void prepare(int n) {
            if (ready == 0) {
                begin(layers, plane.cellB(), plane.cellB() + 1);
                ready = 1;
            }
            int tallest = plane.tallestStep();
            while (ready <= n && ready <= WALK_MOST) {
                spread(layers, (ready - 1) * CELLS, ready * CELLS, plane.by, tallest * ready);
                ready++;
            }
        }

        long onward(int left, int cell) {
            if (left < 0 || left >= ready || left > WALK_MOST || cell < 0 || cell >= CELLS) {
                return 0;
            }
            return layers[left * CELLS + cell];
        }

        /** How many walks of n lead from A to anywhere. */
        long anywhere(int n) {
            begin(spreading, 0, CELLS);
            int tallest = plane.tallestStep();
            int base = 0;
            for (int left = 1; left <= n; left++) {
                spread(spreading, base, CELLS - base, plane.ay, tallest * (n - left));
                base = CELLS - base;
            }
            return spreading[base + plane.cellA()];
        }

        /** Walks without a step: one from each open cell from first on and ahead of end. */
        private void begin(long[] rows, int first, int end) {
            for (int cell = 0; cell < CELLS; cell++) {
                rows[cell] = cell >= first && cell < end && plane.isPassable(cell) ? 1 : 0;
            }
            closeRing(rows, 0);
        }

        /**
         * Fills the layer at target from the one at source, of a step less. Only the rows from y - far to y + far
         * are looked at: what is beyond can't lead on, or is not asked.
         */
        private void spread(long[] rows, int source, int target, int y, int far) {
            int first = Plane.cellOf(-CENTRE, Math.max(y - far, -EDGE));
            int end = Plane.cellOf(-CENTRE, Math.min(y + far, EDGE) + 1);
            for (int cell = 0; cell < CELLS; cell++) {
                boolean asked = cell >= first && cell < end && plane.isPassable(cell);
                rows[target + cell] = asked ? sumAhead(rows, source + cell) : 0;
            }
            closeRing(rows, target);
        }

        /** Closed cells hold 0, so all that the steps lead to may be added up. */
        private long sumAhead(long[] rows, int here) {
            long sum = 0;
            for (int k = 0; k < plane.stepCount && sum < GREAT; k++) {
                sum += rows[here + plane.leaps[k]];
            }
            return Math.min(sum, GREAT);
        }

        /** Beside a ring stands what is at its other side, for the steps over its seam. */
        private void closeRing(long[] rows, int base) {
            if (plane.kind != KIND_RING || plane.round < 1) {
                return;
            }
            for (int y = -EDGE; y <= EDGE; y++) {
                int row = base + Plane.cellOf(0, y);
                for (int i = 0; i < STEP_FAR; i++) {
                    rows[row - 1 - i] = rows[row + Math.floorMod(-1 - i, plane.round)];
                    rows[row + plane.round + i] = rows[row + i % plane.round];
                }
            }
        }
    }

    /**
     * Walks from A to B counted, or compared, by a weight. Only cells that can still come to B in time
     * get a slot: they lie within 21 columns and rows of one of the ends, 43 by 43 at most.
     */
    private static final class Weigher {
        private static final int SLOTS = 43 * 43;
        private static final int SPAN = WEIGHT_MOST + 1;
        // a span holds the last step and the turns: 8 times 14 numbers
        private static final int TURN_SPAN = 14;

        private final Plane plane;
        private final Ways ways;
        private final int[] slotOf = new int[CELLS];
        private int[] here = new int[SLOTS];
        private int[] there = new int[SLOTS];
        private int hereCount;
        private int thereCount;
        private long[] now = new long[SLOTS * SPAN];
        private long[] then = new long[SLOTS * SPAN];
        private int weight;
        private int limit;
        private int reach;
        private boolean tallying;
        private boolean greatest;

        Weigher(Plane plane, Ways ways) {
            this.plane = plane;
            this.ways = ways;
        }

        /** How many walks of n weigh k; there must be one of any weight. */
        long tallied(int newWeight, int n, int k) {
            weight = newWeight;
            limit = k;
            tallying = true;
            travel(n);
            if (weight != WEIGHT_TURNS) {
                return k >= 0 && k < SPAN ? now[k] : 0;
            }
            long total = 0;
            for (int last = 0; last < STEPS_MOST && k >= 0 && k < TURN_SPAN; last++) {
                total += now[last * TURN_SPAN + k];
            }
            return total;
        }

        /** The least or greatest weight of a walk of n; there must be one. */
        int extreme(int newWeight, int n, boolean wantsGreatest) {
            weight = newWeight;
            greatest = wantsGreatest;
            tallying = false;
            travel(n);
            long found = 0;
            for (int last = 0; last < STEPS_MOST; last++) {
                found = better(found, now[last]);
            }
            return (int) found - 1;
        }

        private void travel(int n) {
            here[0] = plane.cellA();
            hereCount = 1;
            reach = 0;
            for (int i = 0; i < SPAN; i++) {
                now[i] = 0;
            }
            // one walk of weight 0, or a best weight of 0, which is kept as one more
            now[0] = 1;
            for (int taken = 0; taken < n; taken++) {
                advance(taken, n - taken - 1);
            }
        }

        private void advance(int taken, int left) {
            thereCount = 0;
            for (int i = 0; i < hereCount && i < SLOTS; i++) {
                for (int k = 0; k < plane.stepCount; k++) {
                    int cell = plane.ahead(here[i], k);
                    if (ways.onward(left, cell) > 0) {
                        carry(i, slotFor(cell), k, cell, taken);
                    }
                }
            }
            for (int i = 0; i < thereCount && i < SLOTS; i++) {
                slotOf[there[i]] = 0;
            }
            swapLayers();
            reach = Math.min(limit, reach + mostGain());
        }

        private void swapLayers() {
            int[] cells = here;
            here = there;
            there = cells;
            long[] spans = now;
            now = then;
            then = spans;
            hereCount = thereCount;
        }

        private int slotFor(int cell) {
            if (cell < 0 || cell >= CELLS) {
                return -1;
            }
            if (slotOf[cell] == 0 && thereCount < SLOTS) {
                there[thereCount] = cell;
                for (int i = 0; i < SPAN; i++) {
                    then[thereCount * SPAN + i] = 0;
                }
                thereCount++;
                slotOf[cell] = thereCount;
            }
            return slotOf[cell] - 1;
        }

        private void carry(int slot, int newSlot, int k, int cell, int taken) {
            if (newSlot < 0) {
                return;
            }
            int source = slot * SPAN;
            int target = newSlot * SPAN;
            if (weight == WEIGHT_TURNS) {
                for (int last = 0; last < plane.stepCount; last++) {
                    int gain = taken > 0 && last != k ? 1 : 0;
                    if (tallying) {
                        shift(source + last * TURN_SPAN, target + k * TURN_SPAN, gain, TURN_SPAN - 1 - gain);
                    } else {
                        improve(source + last, target + k, gain);
                    }
                }
            } else if (tallying) {
                int gain = gainOf(k, cell);
                shift(source, target, gain, Math.min(reach, limit - gain));
            } else {
                improve(source, target, gainOf(k, cell));
            }
        }

        private int gainOf(int k, int cell) {
            if (weight == WEIGHT_TOLD) {
                return plane.weights[k];
            }
            int y = cell / WIDTH - CENTRE;
            if (weight == WEIGHT_AREA) {
                return y;
            }
            return y == 0 ? 1 : 0;
        }

        private int mostGain() {
            if (weight == WEIGHT_TOLD) {
                return TOLD_MOST;
            }
            return weight == WEIGHT_AREA ? EDGE : 1;
        }

        private void shift(int source, int target, int gain, int highest) {
            for (int i = 0; i <= highest; i++) {
                then[target + gain + i] += now[source + i];
            }
        }

        private void improve(int source, int target, int gain) {
            if (now[source] > 0) {
                then[target] = better(then[target], now[source] + gain);
            }
        }

        private long better(long one, long other) {
            if (one == 0 || other == 0) {
                return one + other;
            }
            return greatest == (one > other) ? one : other;
        }
    }

    /** Rows of steps of which the height alone matters. */
    private static final class Heights {
        // a step falls by 1 at most, so from above 60 none comes back to 0 within 60 steps
        private static final int HIGHEST = WALK_MOST;
        private static final int SPAN = 2 * HIGHEST + 1;

        private long[] now = new long[SPAN];
        private long[] then = new long[SPAN];

        /** Rows of n steps from the height of A that come to 0 at their end, or not before it too. */
        long comings(Plane plane, int n, boolean notBefore) {
            beginAt(plane.ay);
            for (int i = 0; i < n; i++) {
                for (int h = notBefore ? 1 : -HIGHEST; h <= HIGHEST; h++) {
                    for (int k = 0; k < plane.stepCount; k++) {
                        push(h, h + plane.dy[k]);
                    }
                }
                swapRows();
            }
            return now[HIGHEST];
        }

        /**
         * Walks of n from A to the x of B and a told y, nothing in their way. Steps come in pairs of one dx,
         * so the columns and the heights of a walk are chosen apart.
         */
        long mirrored(Plane plane, int n, int endY) {
            int across = plane.bx - plane.ax;
            int rise = endY - plane.ay;
            if (Math.abs(across) > HIGHEST || Math.abs(rise) > HIGHEST) {
                return 0;
            }
            beginAt(0);
            for (int i = 0; i < n; i++) {
                for (int x = -HIGHEST; x <= HIGHEST; x++) {
                    for (int k = 0; k < plane.stepCount; k++) {
                        if (plane.dy[k] > 0) {
                            push(x, x + plane.dx[k]);
                        }
                    }
                }
                swapRows();
            }
            long columns = now[HIGHEST + across];
            beginAt(0);
            for (int i = 0; i < n; i++) {
                for (int h = -HIGHEST; h <= HIGHEST; h++) {
                    push(h, h + 1);
                    push(h, h - 1);
                }
                swapRows();
            }
            return columns * now[HIGHEST + rise];
        }

        private void beginAt(int height) {
            for (int i = 0; i < SPAN; i++) {
                now[i] = i == height + HIGHEST ? 1 : 0;
                then[i] = 0;
            }
        }

        private void push(int low, int high) {
            if (high >= -HIGHEST && high <= HIGHEST && now[low + HIGHEST] > 0) {
                then[high + HIGHEST] = added(then[high + HIGHEST], now[low + HIGHEST]);
            }
        }

        /** A sum, or GREAT where it would be more; neither of the two is more. */
        private static long added(long one, long other) {
            return one >= GREAT - other ? GREAT : one + other;
        }

        private void swapRows() {
            long[] row = now;
            now = then;
            then = row;
            for (int i = 0; i < SPAN; i++) {
                then[i] = 0;
            }
        }
    }

    /** Walks to the right and up that never meet. */
    private static final class Family {
        // ends are kept behind the beginnings
        private final int[] xs = new int[2 * FAMILY_MOST];
        private final int[] ys = new int[2 * FAMILY_MOST];
        private final int[] row = new int[2 * EDGE + 1];
        private final long[] square = new long[FAMILY_MOST * FAMILY_MOST];
        private int many;

        void begin(int newMany) {
            many = newMany;
            for (int i = 0; i < 2 * FAMILY_MOST; i++) {
                xs[i] = 0;
                ys[i] = 0;
            }
        }

        boolean has(int k) {
            return k >= 0 && k < many && k < FAMILY_MOST;
        }

        void setPlace(int k, boolean end, int x, int y) {
            if (has(k)) {
                int i = end ? k + FAMILY_MOST : k;
                xs[i] = x;
                ys[i] = y;
            }
        }

        boolean barredAt(Plane plane, int i, int j) {
            return has(i) && has(j)
                && (plane.isBarred(xs[i], ys[i]) || plane.isBarred(xs[j + FAMILY_MOST], ys[j + FAMILY_MOST]));
        }

        boolean anyBarred(Plane plane) {
            for (int i = 0; i < many; i++) {
                if (barredAt(plane, i, i)) {
                    return true;
                }
            }
            return false;
        }

        /** How many walks go from beginning i to end j, or one more than the most that may be told. */
        int entry(Plane plane, int i, int j) {
            if (!has(i) || !has(j)) {
                return 0;
            }
            int left = xs[i];
            int wide = xs[j + FAMILY_MOST] - left;
            if (wide < 0 || wide >= row.length || ys[j + FAMILY_MOST] < ys[i]) {
                return 0;
            }
            for (int c = 0; c <= wide; c++) {
                row[c] = c == 0 ? 1 : 0;
            }
            for (int y = ys[i]; y <= ys[j + FAMILY_MOST]; y++) {
                for (int c = 0; c <= wide; c++) {
                    int sum = c > 0 ? row[c] + row[c - 1] : row[c];
                    row[c] = plane.isBarred(left + c, y) ? 0 : Math.min(sum, TABLE_MOST + 1);
                }
            }
            return row[wide];
        }

        /**
         * Fills the table, or tells false if a number in it is too great. Beyond the family it is 1 where i is j
         * and else 0, so that one determinant of four rows serves every family.
         */
        boolean fillTable(Plane plane) {
            for (int i = 0; i < FAMILY_MOST; i++) {
                for (int j = 0; j < FAMILY_MOST; j++) {
                    int found = i == j ? 1 : 0;
                    if (has(i) && has(j)) {
                        found = entry(plane, i, j);
                    }
                    if (found > TABLE_MOST) {
                        return false;
                    }
                    square[i * FAMILY_MOST + j] = found;
                }
            }
            return true;
        }

        /** By pairs of columns: those of the two upper rows with the others of the two lower. */
        long determinant() {
            return pair(0, 0, 1) * pair(2, 2, 3) - pair(0, 0, 2) * pair(2, 1, 3)
                + pair(0, 0, 3) * pair(2, 1, 2) + pair(0, 1, 2) * pair(2, 0, 3)
                - pair(0, 1, 3) * pair(2, 0, 2) + pair(0, 2, 3) * pair(2, 0, 1);
        }

        private long pair(int line, int c, int d) {
            int upper = line * FAMILY_MOST;
            int lower = upper + FAMILY_MOST;
            return square[upper + c] * square[lower + d] - square[upper + d] * square[lower + c];
        }
    }

    /** Words of brackets in order. */
    private static final class Brackets {
        private static final int LETTERS = 2 * PAIRS_MOST;
        // by the letters left and the brackets open, with a place for one more open
        private static final int SPAN = LETTERS + 2;

        private final long[] ends = new long[(LETTERS + 1) * SPAN];
        private boolean filled;

        /** How many ways there are to end a word with so many letters left and so many brackets open. */
        long endings(int left, int depth) {
            fill();
            if (left < 0 || left > LETTERS || depth < 0 || depth >= SPAN) {
                return 0;
            }
            return ends[left * SPAN + depth];
        }

        private void fill() {
            if (filled) {
                return;
            }
            filled = true;
            ends[0] = 1;
            for (int left = 1; left <= LETTERS; left++) {
                int before = (left - 1) * SPAN;
                for (int depth = 0; depth <= LETTERS; depth++) {
                    long closed = depth > 0 ? ends[before + depth - 1] : 0;
                    ends[left * SPAN + depth] = closed + ends[before + depth + 1];
                }
            }
        }

        void spell(int n, long k, int[] letters) {
            long left = k;
            int depth = 0;
            for (int i = 0; i < 2 * n && i < letters.length; i++) {
                long opened = endings(2 * n - i - 1, depth + 1);
                if (left < opened) {
                    letters[i] = '(';
                    depth++;
                } else {
                    left -= opened;
                    letters[i] = ')';
                    depth--;
                }
            }
        }

        /** The number of the word that a row of 0 and 1 is, or -1. */
        long numberOf(Sheets sheets, int sheet, int many) {
            long found = 0;
            int depth = 0;
            for (int i = 0; i < many; i++) {
                int letter = sheets.at(sheet, i);
                if (letter == 0) {
                    depth++;
                } else if (letter == 1 && depth > 0) {
                    found += endings(many - i - 1, depth + 1);
                    depth--;
                } else {
                    return -1;
                }
            }
            return depth == 0 ? found : -1;
        }
    }

    /** Walks between two lines of any length, by the shortest rule that their first numbers obey. */
    private static final class Levels {
        private static final long PRIME = 998244353L;
        private static final int LINES = EDGE + 1;
        // a rule is no longer than there are lines, and twice so many numbers tell it
        private static final int TERMS = 2 * LINES;
        private static final int SPAN = TERMS + 2;

        private final long[] terms = new long[SPAN];
        private long[] now = new long[LINES];
        private long[] then = new long[LINES];
        private long[] link = new long[SPAN];
        private long[] older = new long[SPAN];
        private long[] spare = new long[SPAN];
        private final long[] parts = new long[SPAN];
        private final long[] rest = new long[SPAN];
        private final long[] product = new long[SPAN];
        private final int[] keptParts = new int[SPAN];
        private int degree;
        private int keptDegree;

        /** Levels of n. */
        int after(Plane plane, long n) {
            findRule(plane);
            if (n < TERMS) {
                return (int) terms[(int) n];
            }
            return (int) distant(n);
        }

        int keepRule(Plane plane) {
            findRule(plane);
            keptDegree = degree;
            for (int i = 1; i <= degree && i < SPAN; i++) {
                keptParts[i] = (int) parts[i];
            }
            return keptDegree;
        }

        boolean keeps(int k) {
            return k >= 1 && k <= keptDegree && k < SPAN;
        }

        int kept(int k) {
            return keeps(k) ? keptParts[k] : NONE;
        }

        private void findTerms(Plane plane) {
            for (int h = 0; h < LINES; h++) {
                now[h] = h == plane.ay ? 1 : 0;
            }
            for (int n = 0; n < TERMS; n++) {
                terms[n] = plane.by >= 0 && plane.by < LINES ? now[plane.by] : 0;
                climb(plane);
            }
        }

        private void climb(Plane plane) {
            for (int h = 0; h < LINES; h++) {
                then[h] = 0;
            }
            for (int h = 0; h <= plane.top && h < LINES; h++) {
                for (int k = 0; k < plane.stepCount; k++) {
                    int high = h + plane.dy[k];
                    if (high >= 0 && high <= plane.top && high < LINES) {
                        then[high] = (then[high] + now[h]) % PRIME;
                    }
                }
            }
            long[] row = now;
            now = then;
            then = row;
        }

        /** The shortest rule of the terms, by Berlekamp and Massey. */
        private void findRule(Plane plane) {
            findTerms(plane);
            for (int i = 0; i < SPAN; i++) {
                link[i] = i == 0 ? 1 : 0;
                older[i] = link[i];
            }
            degree = 0;
            int gap = 1;
            long olderMiss = 1;
            for (int n = 0; n < TERMS; n++) {
                long miss = missAt(n);
                if (miss == 0) {
                    gap++;
                } else if (2 * degree <= n) {
                    System.arraycopy(link, 0, spare, 0, SPAN);
                    mend(miss, olderMiss, gap);
                    long[] row = older;
                    older = spare;
                    spare = row;
                    degree = n + 1 - degree;
                    olderMiss = miss;
                    gap = 1;
                } else {
                    mend(miss, olderMiss, gap);
                    gap++;
                }
            }
            for (int i = 1; i < SPAN; i++) {
                parts[i] = (PRIME - link[i]) % PRIME;
            }
        }

        private long missAt(int n) {
            long miss = 0;
            for (int i = 0; i <= degree && i <= n; i++) {
                miss = (miss + link[i] * terms[n - i]) % PRIME;
            }
            return miss;
        }

        private void mend(long miss, long olderMiss, int gap) {
            long share = miss * inverse(olderMiss) % PRIME;
            for (int i = 0; i + gap < SPAN; i++) {
                link[i + gap] = (link[i + gap] + (PRIME - share) * older[i]) % PRIME;
            }
        }

        private static long inverse(long v) {
            long power = v % PRIME;
            long found = 1;
            for (long left = PRIME - 2; left > 0; left >>= 1) {
                if ((left & 1) != 0) {
                    found = found * power % PRIME;
                }
                power = power * power % PRIME;
            }
            return found;
        }

        /** A far term, by the rest of x to the power n under the rule. */
        private long distant(long n) {
            if (degree < 1 || 2 * degree >= SPAN) {
                return 0;
            }
            for (int i = 0; i < SPAN; i++) {
                rest[i] = i == 0 ? 1 : 0;
            }
            for (int bit = 62; bit >= 0; bit--) {
                square();
                if (((n >> bit) & 1) != 0) {
                    raise();
                }
            }
            long found = 0;
            for (int i = 0; i < degree; i++) {
                found = (found + rest[i] * terms[i]) % PRIME;
            }
            return found;
        }

        private void square() {
            for (int i = 0; i < SPAN; i++) {
                product[i] = 0;
            }
            for (int i = 0; i < degree; i++) {
                for (int j = 0; j < degree; j++) {
                    product[i + j] = (product[i + j] + rest[i] * rest[j]) % PRIME;
                }
            }
            reduce(2 * degree - 2);
        }

        private void raise() {
            product[0] = 0;
            for (int i = 0; i < degree; i++) {
                product[i + 1] = rest[i];
            }
            reduce(degree);
        }

        private void reduce(int highest) {
            for (int j = highest; j >= degree; j--) {
                for (int i = 1; i <= degree; i++) {
                    product[j - i] = (product[j - i] + product[j] * parts[i]) % PRIME;
                }
            }
            for (int i = 0; i < degree; i++) {
                rest[i] = product[i];
            }
        }
    }
}
