/** Two bent grounds, and what points, lines, planes, balls and other grounds have of them. */
public final class BentGrounds {
    public static final int BAD = -1, FULL = -2, FINDING = -3, STATE = -4, SPENT = -6, NONE = -9;

    private static final int NOTHING = 1, BEYOND = 2, UNLIKE = 3, NOUGHT = 4, SIZE = 5;
    private static final int CONE = 1, FLAT = 2, BALL = 3, RULED = 4;
    private static final int SHEETS = 8, LONGEST = 16, GROUNDS = 12;
    private static final int FACTS = 10, NUMBERS = 10, LETTERS = 4;
    private static final int GREATEST = 4, GREATEST_MOVED = 30, FARTHEST = 100, FARTHEST_MOTION = 4;
    private static final int MOST_STEPS = 20, WIDEST_SEARCH = 10, KEPT = 100;
    private static final int DEEPEST_TREE = 8, TREE_END = 256, MOST_FIGURES = 9;
    private static final int GREATEST_FRACTION = 64, GREATEST_WORTH_ROOT = 64;
    private static final int ALL_ROOTS = 9, LIES_ON = 9, MANY = 9;
    private static final int APART = 2, TOUCH = 1, SHARE_ROOM = 0;

    /** Where the ten told numbers stand in a table: xx, xy, xz, xw, yy, yz, yw, zz, zw, ww. */
    private static final int[] ROW_OF = {0, 0, 0, 0, 1, 1, 1, 2, 2, 3};
    private static final int[] COLUMN_OF = {0, 1, 2, 3, 1, 2, 3, 2, 3, 3};

    private final Sheet[] sheets = new Sheet[SHEETS];
    private final Ground[] grounds = new Ground[GROUNDS];
    private final Table work = new Table();
    private final Table lesser = new Table();
    private final Form pencil = new Form();
    private final Tree tree = new Tree();
    private final Search search = new Search();
    private final long[] placeU = new long[LETTERS];
    private final long[] placeV = new long[LETTERS];

    private final int[] lineNumbers = new int[3];
    private boolean lineKnown;
    private final int[] formNumbers = new int[5];
    private boolean formKnown;

    private int latestAsked;
    private long latestUpper;
    private long latestLower = 1;
    private int latestFinding;
    private final int[] findingCounts = new int[SIZE + 1];

    public BentGrounds() {
        for (int s = 0; s < SHEETS; s++) {
            sheets[s] = new Sheet();
        }
        for (int g = 0; g < GROUNDS; g++) {
            grounds[g] = new Ground();
        }
    }

    // ---- 1 sheets, grounds

    public int sheet(int s, int n) {
        if (noSheet(s) || n > LONGEST) {
            return BAD;
        }
        if (n < 0) {
            return refuse(SIZE);
        }
        sheets[s].begin(n);
        return n;
    }

    public int lay(int s, int i, int v) {
        if (noSheet(s)) {
            return BAD;
        }
        Sheet sheet = sheets[s];
        if (sheet.missing()) {
            return refuse(NOTHING);
        }
        if (i < 0 || i >= sheet.size) {
            return refuse(BEYOND);
        }
        latestAsked = sheet.row[i];
        sheet.row[i] = v;
        return 1;
    }

    public int tear(int s) {
        if (noSheet(s)) {
            return BAD;
        }
        if (sheets[s].missing()) {
            return refuse(NOTHING);
        }
        sheets[s].end();
        return 1;
    }

    public int copy(int s, int i, int to, int j, int n) {
        if (noSheet(s) || noSheet(to)) {
            return BAD;
        }
        if (n < 0) {
            return refuse(SIZE);
        }
        Sheet from = sheets[s];
        Sheet goal = sheets[to];
        if (from.missing() || goal.missing()) {
            return refuse(NOTHING);
        }
        if (!from.hasFrom(i, n) || !goal.hasFrom(j, n)) {
            return refuse(BEYOND);
        }
        System.arraycopy(from.row, i, goal.row, j, n);
        return 1;
    }

    public int ground(int g, int s) {
        if (noGround(g) || noSheet(s)) {
            return BAD;
        }
        Sheet sheet = sheets[s];
        if (sheet.missing()) {
            return refuse(NOTHING);
        }
        if (sheet.goesBeyond(NUMBERS, GREATEST)) {
            return refuse(BEYOND);
        }
        if (sheet.isBlank(NUMBERS)) {
            return refuse(NOUGHT);
        }
        work.readTen(sheet.row);
        return grounds[g].becomes(work, lesser);
    }

    public int drop(int g) {
        int refused = refusedGround(g);
        if (refused != 0) {
            return refused;
        }
        grounds[g].there = false;
        return 1;
    }

    public int table(int g, int i, int j) {
        if (noLetter(i) || noLetter(j)) {
            return BAD;
        }
        int refused = refusedGround(g);
        if (refused != 0) {
            return refused;
        }
        latestAsked = (int) grounds[g].numbers.at[LETTERS * i + j];
        return 1;
    }

    public int told(int g, int what) {
        if (what < 0 || what >= FACTS) {
            return BAD;
        }
        int refused = refusedGround(g);
        if (refused != 0) {
            return refused;
        }
        latestAsked = grounds[g].facts[what];
        return 1;
    }

    public int mark(int g, int kind) {
        if (kind < CONE || kind > RULED) {
            return BAD;
        }
        int refused = refusedGround(g);
        if (refused != 0) {
            return refused;
        }
        Ground ground = grounds[g];
        if (!ground.is(kind)) {
            return refuse(UNLIKE);
        }
        if (kind == CONE) {
            return ground.nought();
        }
        if (kind == FLAT) {
            return oneIf(ground.changesSign());
        }
        if (kind == BALL) {
            return oneIf(ground.above() > ground.below());
        }
        return oneIf(isSquare(ground.worth()));
    }

    public int turn(int g) {
        int refused = refusedGround(g);
        if (refused != 0) {
            return refused;
        }
        Table numbers = grounds[g].numbers;
        work.sumOf(numbers, -1, numbers, 0);
        return grounds[g].becomes(work, lesser);
    }

    public int shear(int g, int i, int j, int k) {
        if (noLetter(i) || noLetter(j) || i == j || k < -2 || k > 2) {
            return BAD;
        }
        int refused = refusedGround(g);
        if (refused != 0) {
            return refused;
        }
        work.become(grounds[g].numbers);
        work.shearBy(i, j, k);
        if (work.goesBeyond(GREATEST)) {
            return refuse(BEYOND);
        }
        return grounds[g].becomes(work, lesser);
    }

    public int swap(int g, int i, int j) {
        if (noLetter(i) || noLetter(j)) {
            return BAD;
        }
        int refused = refusedGround(g);
        if (refused != 0) {
            return refused;
        }
        work.become(grounds[g].numbers);
        work.swapLetters(i, j);
        return grounds[g].becomes(work, lesser);
    }

    public int same(int g, int h) {
        int refused = refusedPair(g, h);
        if (refused != 0) {
            return refused;
        }
        Ground one = grounds[g];
        Ground other = grounds[h];
        boolean straight = one.above() == other.above() && one.below() == other.below();
        boolean turned = one.above() == other.below() && one.below() == other.above();
        return oneIf(straight || turned);
    }

    public int alike(int g, int h) {
        int refused = refusedPair(g, h);
        if (refused != 0) {
            return refused;
        }
        return oneIf(grounds[g].name() == grounds[h].name());
    }

    // ---- 2 places, lines, planes

    public int value(int g, int s) {
        int refused = refusedAt(g, s);
        if (refused != 0) {
            return refused;
        }
        latestAsked = (int) grounds[g].numbers.product(placeU, placeU);
        return 1;
    }

    public int tangent(int g, int s, int to) {
        if (noSheet(to)) {
            return BAD;
        }
        int refused = refusedAt(g, s);
        if (refused != 0) {
            return refused;
        }
        Sheet goal = sheets[to];
        goal.begin(LETTERS);
        for (int i = 0; i < LETTERS; i++) {
            goal.row[i] = (int) grounds[g].numbers.poleNumber(i, placeU);
        }
        return 1;
    }

    public int line(int g, int s, int t) {
        if (noGround(g) || noSheet(s) || noSheet(t)) {
            return BAD;
        }
        if (!grounds[g].there || sheets[s].missing() || sheets[t].missing()) {
            return refuse(NOTHING);
        }
        int found = placesFinding(sheets[s], sheets[t]);
        if (found == 0 && onePlaceAlone(placeU, placeV)) {
            found = NOUGHT;
        }
        if (found != 0) {
            return refuse(found);
        }
        Table numbers = grounds[g].numbers;
        long a = numbers.product(placeU, placeU);
        long b = numbers.product(placeU, placeV);
        long c = numbers.product(placeV, placeV);
        lineNumbers[0] = (int) a;
        lineNumbers[1] = (int) b;
        lineNumbers[2] = (int) c;
        lineKnown = true;
        if (a == 0 && b == 0 && c == 0) {
            return LIES_ON;
        }
        return 1 + signOf(b * b - a * c);
    }

    public int lineTold(int what) {
        if (what < 0 || what > 2) {
            return BAD;
        }
        if (!lineKnown) {
            return STATE;
        }
        latestAsked = lineNumbers[what];
        return 1;
    }

    public int cut(int g, int s) {
        int refused = refusedAt(g, s);
        if (refused != 0) {
            return refused;
        }
        work.cutBy(grounds[g].numbers, placeU);
        work.readSigns();
        return Math.max(10 * work.above + work.below, 10 * work.below + work.above);
    }

    public int touches(int g, int s) {
        int refused = refusedAt(g, s);
        if (refused != 0) {
            return refused;
        }
        work.cutBy(grounds[g].numbers, placeU);
        work.readSigns();
        return oneIf(work.above + work.below <= 2);
    }

    public int lines(int g, int s) {
        int refused = refusedAt(g, s);
        if (refused != 0) {
            return refused;
        }
        Ground ground = grounds[g];
        if (ground.numbers.product(placeU, placeU) != 0) {
            return 0;
        }
        switch (ground.kind()) {
            case RULED:
                return 2;
            case CONE:
                if (!ground.changesSign()) {
                    return 0;
                }
                return ground.numbers.isPoleless(placeU) ? MANY : 1;
            case FLAT:
                return ground.above() == 2 || ground.below() == 2 ? 1 : MANY;
            default:
                return 0;
        }
    }

    public int middle(int g, int i) {
        if (i < 0 || i > 2) {
            return BAD;
        }
        int refused = refusedGround(g);
        if (refused != 0) {
            return refused;
        }
        long under = grounds[g].lesserWorth();
        if (under == 0) {
            return refuse(NOUGHT);
        }
        work.become(grounds[g].numbers);
        work.putFarColumnAt(i);
        tellFraction(work.minor3(0, 1, 2), under);
        return 1;
    }

    // ---- 3 two grounds

    public int form(int g, int h) {
        int refused = refusedPencil(g, h);
        if (refused != 0) {
            return refused;
        }
        int unlikeNought = 0;
        for (int i = 0; i < 5; i++) {
            formNumbers[i] = (int) pencil.at[i];
            if (formNumbers[i] != 0) {
                unlikeNought++;
            }
        }
        formKnown = true;
        return unlikeNought;
    }

    public int formTold(int i) {
        if (i < 0 || i > 4) {
            return BAD;
        }
        if (!formKnown) {
            return STATE;
        }
        latestAsked = formNumbers[i];
        return 1;
    }

    public int roots(int g, int h) {
        int refused = refusedPencil(g, h);
        if (refused != 0) {
            return refused;
        }
        return pencil.isNought() ? ALL_ROOTS : pencil.realRoots();
    }

    public int pattern(int g, int h) {
        int refused = refusedPencil(g, h);
        if (refused != 0) {
            return refused;
        }
        return pencil.figures();
    }

    public int rational(int g, int h, int i) {
        int refused = refusedPencil(g, h);
        if (refused != 0) {
            return refused;
        }
        if (pencil.isNought()) {
            return STATE;
        }
        pencil.findFractions();
        // the document tells no limit of i, so one below 0 names no root, as one above the last does
        if (i < 0 || i >= pencil.fractions) {
            return NONE;
        }
        long m = pencil.over[i];
        long q = pencil.under[i];
        tellFraction(m, q);
        return pencil.timesAt(m, q);
    }

    public int between(int g, int h, int n) {
        if (n < 1 || n > DEEPEST_TREE) {
            return BAD;
        }
        int refused = refusedPencil(g, h);
        if (refused != 0) {
            return refused;
        }
        tree.walk(pencil, grounds[g].numbers, grounds[h].numbers, n);
        latestAsked = tree.row;
        boolean shown = !pencil.isNought() && tree.changes == pencil.singleRoots();
        return shown ? tree.row : SPENT;
    }

    // ---- 4 balls, motions, shared places

    public int apart(int g, int h) {
        if (g == h) {
            return BAD;
        }
        int refused = refusedPair(g, h);
        if (refused != 0) {
            return refused;
        }
        if (!grounds[g].is(BALL) || !grounds[h].is(BALL)) {
            return refuse(UNLIKE);
        }
        return meeting(grounds[g], grounds[h], grounds[h].numbers);
    }

    public int first(int g, int h, int s, int n) {
        if (noGround(g) || noGround(h) || g == h || noSheet(s) || n < 0 || n > MOST_STEPS) {
            return BAD;
        }
        if (!grounds[g].there || !grounds[h].there || sheets[s].missing()) {
            return refuse(NOTHING);
        }
        if (!grounds[g].is(BALL) || !grounds[h].is(BALL)) {
            return refuse(UNLIKE);
        }
        if (sheets[s].size < 3) {
            return refuse(SIZE);
        }
        if (sheets[s].goesBeyond(3, FARTHEST_MOTION)) {
            return refuse(BEYOND);
        }
        int found = NONE;
        for (int step = 0; step <= n; step++) {
            work.become(grounds[h].numbers);
            work.moveBy(sheets[s].row, step);
            if (work.goesBeyond(GREATEST_MOVED)) {
                return SPENT;
            }
            if (found == NONE && meeting(grounds[g], grounds[h], work) != APART) {
                found = step;
            }
        }
        return found;
    }

    public int shared(int g, int h, int n) {
        if (n < 0 || n > WIDEST_SEARCH) {
            return BAD;
        }
        int refused = refusedPair(g, h);
        if (refused != 0) {
            return refused;
        }
        return search.seek(grounds[g].numbers, grounds[h].numbers, grounds[h].numbers, n);
    }

    public int place(int i, int k) {
        if (k < 0 || k > 2) {
            return BAD;
        }
        if (i < 0 || i >= KEPT || i >= search.found) {
            return NONE;
        }
        latestAsked = search.kept[3 * i + k];
        return 1;
    }

    public int shared3(int g, int h, int k, int n) {
        if (noGround(g) || noGround(h) || noGround(k) || n < 0 || n > WIDEST_SEARCH) {
            return BAD;
        }
        if (!grounds[g].there || !grounds[h].there || !grounds[k].there) {
            return refuse(NOTHING);
        }
        return search.seek(grounds[g].numbers, grounds[h].numbers, grounds[k].numbers, n);
    }

    // ---- 5 what is told

    public int asked() {
        return latestAsked;
    }

    public long upper() {
        return latestUpper;
    }

    public long lower() {
        return latestLower;
    }

    public int count(int what) {
        switch (what) {
            case 0:
                return sheetsThere();
            case 1:
                return groundsThere(0);
            case 2:
                return groundsThere(BALL);
            case 3:
                return groundsThere(RULED);
            case 4:
                return groundsThere(CONE);
            default:
                return BAD;
        }
    }

    public int finding() {
        return latestFinding;
    }

    public int findings(int f) {
        if (f < NOTHING || f > SIZE) {
            return BAD;
        }
        return findingCounts[f];
    }

    public long digest() {
        long sum = 17;
        for (int g = 0; g < GROUNDS; g++) {
            sum = grounds[g].addTo(sum);
        }
        for (int s = 0; s < SHEETS; s++) {
            sum = sheets[s].addTo(sum);
        }
        return sum;
    }

    // ---- what refuses

    private static boolean noSheet(int s) {
        return s < 0 || s >= SHEETS;
    }

    private static boolean noGround(int g) {
        return g < 0 || g >= GROUNDS;
    }

    private static boolean noLetter(int i) {
        return i < 0 || i >= LETTERS;
    }

    private int refuse(int found) {
        if (found >= NOTHING && found <= SIZE) {
            latestFinding = found;
            findingCounts[found]++;
        }
        return FINDING;
    }

    private int refusedGround(int g) {
        return refusedPair(g, g);
    }

    private int refusedPair(int g, int h) {
        if (noGround(g) || noGround(h)) {
            return BAD;
        }
        if (!grounds[g].there || !grounds[h].there) {
            return refuse(NOTHING);
        }
        return 0;
    }

    /** What is not refused leaves the form of both grounds in pencil. */
    private int refusedPencil(int g, int h) {
        int refused = refusedPair(g, h);
        if (refused == 0) {
            pencil.read(grounds[g].numbers, 1, grounds[h].numbers, 1);
        }
        return refused;
    }

    /** What is not refused leaves the place (or plane) of the sheet in placeU. */
    private int refusedAt(int g, int s) {
        if (noGround(g) || noSheet(s)) {
            return BAD;
        }
        if (!grounds[g].there || sheets[s].missing()) {
            return refuse(NOTHING);
        }
        int found = placesFinding(sheets[s], sheets[s]);
        return found == 0 ? 0 : refuse(found);
    }

    /** Each finding is sought on both sheets ahead of the next one, for that is their order. */
    private int placesFinding(Sheet one, Sheet other) {
        if (one.size < LETTERS || other.size < LETTERS) {
            return SIZE;
        }
        if (one.goesBeyond(LETTERS, FARTHEST) || other.goesBeyond(LETTERS, FARTHEST)) {
            return BEYOND;
        }
        if (one.isBlank(LETTERS) || other.isBlank(LETTERS)) {
            return NOUGHT;
        }
        for (int i = 0; i < LETTERS; i++) {
            placeU[i] = one.row[i];
            placeV[i] = other.row[i];
        }
        return 0;
    }

    // ---- what helps

    private static boolean onePlaceAlone(long[] u, long[] v) {
        for (int i = 0; i < LETTERS; i++) {
            for (int j = i + 1; j < LETTERS; j++) {
                if (u[i] * v[j] != u[j] * v[i]) {
                    return false;
                }
            }
        }
        return true;
    }

    /** The second ball's numbers are told apart from it, for it may have been moved. */
    private int meeting(Ground ball, Ground other, Table numbers) {
        int one = ball.above() > ball.below() ? 1 : -1;
        int two = other.above() > other.below() ? 1 : -1;
        pencil.read(ball.numbers, one, numbers, two);
        return pencil.meetingOfBalls();
    }

    private void tellFraction(long over, long under) {
        if (under == 0) {
            return;
        }
        long common = commonPart(over, under);
        if (common == 0) {
            return;
        }
        if (under < 0) {
            common = -common;
        }
        latestUpper = over / common;
        latestLower = under / common;
    }

    private int sheetsThere() {
        int there = 0;
        for (int s = 0; s < SHEETS; s++) {
            if (!sheets[s].missing()) {
                there++;
            }
        }
        return there;
    }

    private int groundsThere(int kind) {
        int there = 0;
        for (int g = 0; g < GROUNDS; g++) {
            if (grounds[g].there && grounds[g].is(kind)) {
                there++;
            }
        }
        return there;
    }

    private static int oneIf(boolean holds) {
        return holds ? 1 : 0;
    }

    private static int signOf(long v) {
        return v > 0 ? 1 : v < 0 ? -1 : 0;
    }

    private static boolean isSquare(int v) {
        for (int r = 0; r <= GREATEST_WORTH_ROOT && r * r <= v; r++) {
            if (r * r == v) {
                return true;
            }
        }
        return false;
    }

    private static long commonPart(long a, long b) {
        long x = Math.abs(a);
        long y = Math.abs(b);
        for (int step = 0; step < 100 && y != 0; step++) {
            long left = x % y;
            x = y;
            y = left;
        }
        return x;
    }

    /** How often a row of numbers changes its sign, the 0s left out. */
    private static int signChanges(long[] row) {
        int changes = 0;
        int latest = 0;
        for (int k = 0; k < row.length; k++) {
            int sign = signOf(row[k]);
            if (sign != 0) {
                if (latest != 0 && sign != latest) {
                    changes++;
                }
                latest = sign;
            }
        }
        return changes;
    }

    /** A row of ints. All its sixteen places are 0 from its size on, so that places that lack read as 0. */
    private static final class Sheet {
        final int[] row = new int[LONGEST];
        int size = -1;

        boolean missing() {
            return size < 0;
        }

        void begin(int n) {
            for (int i = 0; i < LONGEST; i++) {
                row[i] = 0;
            }
            size = n;
        }

        void end() {
            begin(-1);
        }

        boolean hasFrom(int i, int n) {
            return i >= 0 && n >= 0 && n <= size && i <= size - n;
        }

        boolean goesBeyond(int n, int bound) {
            for (int i = 0; i < n && i < LONGEST; i++) {
                if (row[i] < -bound || row[i] > bound) {
                    return true;
                }
            }
            return false;
        }

        boolean isBlank(int n) {
            for (int i = 0; i < n && i < LONGEST; i++) {
                if (row[i] != 0) {
                    return false;
                }
            }
            return true;
        }

        long addTo(long sum) {
            long all = 31 * sum + size;
            for (int i = 0; i < size && i < LONGEST; i++) {
                all = 31 * all + row[i];
            }
            return all;
        }
    }

    /** Four by four numbers, row behind row. */
    private static final class Table {
        final long[] at = new long[LETTERS * LETTERS];
        /** 1, then the numbers of the polynomial whose roots are the table's own numbers. */
        final long[] own = new long[LETTERS + 1];
        int above;
        int below;
        /** What is left of VALUE when x and y are told: level + slope z + (the number zz) z z. */
        long level;
        long slope;

        void become(Table other) {
            for (int k = 0; k < at.length; k++) {
                at[k] = other.at[k];
            }
        }

        void readTen(int[] row) {
            for (int k = 0; k < NUMBERS && k < row.length; k++) {
                at[LETTERS * ROW_OF[k] + COLUMN_OF[k]] = row[k];
                at[LETTERS * COLUMN_OF[k] + ROW_OF[k]] = row[k];
            }
        }

        long ten(int k) {
            return k < 0 || k >= NUMBERS ? 0 : at[LETTERS * ROW_OF[k] + COLUMN_OF[k]];
        }

        void sumOf(Table a, long m, Table b, long q) {
            for (int k = 0; k < at.length; k++) {
                at[k] = a.at[k] * m + b.at[k] * q;
            }
        }

        boolean goesBeyond(int bound) {
            for (int k = 0; k < at.length; k++) {
                if (at[k] < -bound || at[k] > bound) {
                    return true;
                }
            }
            return false;
        }

        /** Letter i is written as letter i and k times letter j. */
        void shearBy(int i, int j, int k) {
            if (noLetter(i) || noLetter(j)) {
                return;
            }
            for (int r = 0; r < LETTERS; r++) {
                at[LETTERS * r + j] += k * at[LETTERS * r + i];
            }
            for (int c = 0; c < LETTERS; c++) {
                at[LETTERS * j + c] += k * at[LETTERS * i + c];
            }
        }

        /** A place moved on by w' is found back at x - step x', so the letters are sheared by less. */
        void moveBy(int[] motion, int step) {
            for (int i = 0; i < 3 && i < motion.length; i++) {
                shearBy(i, 3, -step * motion[i]);
            }
        }

        void swapLetters(int i, int j) {
            if (noLetter(i) || noLetter(j)) {
                return;
            }
            for (int r = 0; r < LETTERS; r++) {
                exchange(LETTERS * r + i, LETTERS * r + j);
            }
            for (int c = 0; c < LETTERS; c++) {
                exchange(LETTERS * i + c, LETTERS * j + c);
            }
        }

        private void exchange(int k, int l) {
            if (k < 0 || l < 0 || k >= at.length || l >= at.length) {
                return;
            }
            long kept = at[k];
            at[k] = at[l];
            at[l] = kept;
        }

        /** Number i of the table times a place. */
        long poleNumber(int i, long[] place) {
            if (noLetter(i) || place.length < LETTERS) {
                return 0;
            }
            long sum = 0;
            for (int j = 0; j < LETTERS; j++) {
                sum += at[LETTERS * i + j] * place[j];
            }
            return sum;
        }

        boolean isPoleless(long[] place) {
            for (int i = 0; i < LETTERS; i++) {
                if (poleNumber(i, place) != 0) {
                    return false;
                }
            }
            return true;
        }

        long product(long[] u, long[] v) {
            long sum = 0;
            for (int i = 0; i < LETTERS && i < u.length; i++) {
                sum += u[i] * poleNumber(i, v);
            }
            return sum;
        }

        void readLesser(Table other) {
            become(other);
            for (int k = 0; k < LETTERS; k++) {
                at[LETTERS * k + 3] = 0;
                at[LETTERS * 3 + k] = 0;
            }
        }

        /**
         * VALUE on a plane. With letter k of the plane not 0, the three places that have that number
         * at another letter i, and the plane's letter i turned at k, span it. The row and column of k
         * come out as 0, so the signs above and below are those of the three.
         */
        void cutBy(Table other, long[] plane) {
            int k = 0;
            while (k < 3 && plane[k] == 0) {
                k++;
            }
            long p = plane[k];
            for (int i = 0; i < LETTERS; i++) {
                for (int j = 0; j < LETTERS; j++) {
                    long straight = p * p * other.at[LETTERS * i + j];
                    long mixed = p * plane[j] * other.at[LETTERS * i + k] + p * plane[i] * other.at[LETTERS * k + j];
                    at[LETTERS * i + j] = straight - mixed + plane[i] * plane[j] * other.at[LETTERS * k + k];
                }
            }
        }

        /** The first three rows tell the middle by this column instead of letter i's. */
        void putFarColumnAt(int i) {
            if (i < 0 || i > 2) {
                return;
            }
            for (int r = 0; r < 3; r++) {
                at[LETTERS * r + i] = -at[LETTERS * r + 3];
            }
        }

        private long minor2(int p, int q) {
            return at[5 * p] * at[5 * q] - at[LETTERS * p + q] * at[LETTERS * q + p];
        }

        long minor3(int p, int q, int r) {
            int a = LETTERS * p;
            int b = LETTERS * q;
            int c = LETTERS * r;
            return at[a + p] * (at[b + q] * at[c + r] - at[b + r] * at[c + q])
                    - at[a + q] * (at[b + p] * at[c + r] - at[b + r] * at[c + p])
                    + at[a + r] * (at[b + p] * at[c + q] - at[b + q] * at[c + p]);
        }

        /** By pairs of columns: the first two rows' part times the last two rows' part. */
        long worth() {
            return pairOf(0, 0, 1) * pairOf(8, 2, 3)
                    - pairOf(0, 0, 2) * pairOf(8, 1, 3)
                    + pairOf(0, 0, 3) * pairOf(8, 1, 2)
                    + pairOf(0, 1, 2) * pairOf(8, 0, 3)
                    - pairOf(0, 1, 3) * pairOf(8, 0, 2)
                    + pairOf(0, 2, 3) * pairOf(8, 0, 1);
        }

        private long pairOf(int row, int i, int j) {
            return at[row + i] * at[row + LETTERS + j] - at[row + j] * at[row + LETTERS + i];
        }

        /**
         * All own numbers are real, so as many of them are above 0 as their polynomial changes its
         * sign, and as many are 0 as its last numbers are.
         */
        void readSigns() {
            own[0] = 1;
            own[1] = -(at[0] + at[5] + at[10] + at[15]);
            own[2] = minor2(0, 1) + minor2(0, 2) + minor2(0, 3) + minor2(1, 2) + minor2(1, 3) + minor2(2, 3);
            own[3] = -(minor3(0, 1, 2) + minor3(0, 1, 3) + minor3(0, 2, 3) + minor3(1, 2, 3));
            own[4] = worth();
            int rank = LETTERS;
            while (rank > 0 && own[rank] == 0) {
                rank--;
            }
            above = signChanges(own);
            below = rank - above;
        }

        void tellAlong(long x, long y) {
            level = at[0] * x * x + at[5] * y * y + at[15] + 2 * (at[1] * x * y + at[3] * x + at[7] * y);
            slope = 2 * (at[2] * x + at[6] * y + at[11]);
        }

        boolean isOnAt(long z) {
            return level + z * (slope + at[10] * z) == 0;
        }
    }

    /** A table of small numbers with all that is told of it; there, or missing. */
    private static final class Ground {
        boolean there;
        final Table numbers = new Table();
        final int[] facts = new int[FACTS];

        int kind() {
            return facts[0];
        }

        int above() {
            return facts[1];
        }

        int below() {
            return facts[2];
        }

        int nought() {
            return facts[3];
        }

        int worth() {
            return facts[7];
        }

        int lesserWorth() {
            return facts[8];
        }

        int name() {
            return facts[9];
        }

        boolean changesSign() {
            return above() > 0 && below() > 0;
        }

        /** A flat ground is a cone too, and all are grounds. */
        boolean is(int asked) {
            return asked == 0 || kind() == asked || asked == CONE && kind() == FLAT;
        }

        int becomes(Table told, Table lesser) {
            numbers.become(told);
            numbers.readSigns();
            lesser.readLesser(numbers);
            lesser.readSigns();
            there = true;
            facts[1] = numbers.above;
            facts[2] = numbers.below;
            facts[3] = LETTERS - numbers.above - numbers.below;
            facts[4] = lesser.above;
            facts[5] = lesser.below;
            facts[6] = LETTERS - 1 - lesser.above - lesser.below;
            facts[7] = (int) numbers.worth();
            facts[8] = (int) numbers.minor3(0, 1, 2);
            facts[9] = Math.max(nameBy(numbers.above, numbers.below, lesser.above, lesser.below),
                    nameBy(numbers.below, numbers.above, lesser.below, lesser.above));
            facts[0] = kindBySigns();
            return kind();
        }

        private static int nameBy(int a, int b, int c, int d) {
            return 1000 * a + 100 * b + 10 * c + d;
        }

        private int kindBySigns() {
            boolean ballAbove = above() == 3 && below() == 1 && facts[4] == 3;
            boolean ballBelow = above() == 1 && below() == 3 && facts[5] == 3;
            if (ballAbove || ballBelow) {
                return BALL;
            }
            if (above() == 2 && below() == 2) {
                return RULED;
            }
            if (nought() == 1) {
                return CONE;
            }
            return nought() > 1 ? FLAT : 0;
        }

        long addTo(long sum) {
            if (!there) {
                return 31 * sum - 1;
            }
            long all = sum;
            for (int k = 0; k < NUMBERS; k++) {
                all = 31 * all + numbers.ten(k);
            }
            for (int k = 0; k < FACTS; k++) {
                all = 31 * all + facts[k];
            }
            return all;
        }
    }

    /** A number that is not below 0, of up to 180 bits, for the squares and cubes of a form's numbers. */
    private static final class Wide {
        private static final int PARTS = 6, BITS = 30;
        private static final long MASK = (1L << BITS) - 1;
        final long[] part = new long[PARTS];
        final long[] product = new long[PARTS];

        void begin(long v) {
            for (int k = 0; k < PARTS; k++) {
                part[k] = 0;
            }
            part[0] = v & MASK;
            part[1] = v >>> BITS & MASK;
            part[2] = v >>> 2 * BITS;
        }

        void multiply(long v) {
            for (int k = 0; k < PARTS; k++) {
                product[k] = 0;
            }
            for (int k = 0; k < 3; k++) {
                long digit = v >>> k * BITS & MASK;
                long carried = 0;
                for (int i = 0; i + k < PARTS; i++) {
                    long sum = product[i + k] + part[i] * digit + carried;
                    product[i + k] = sum & MASK;
                    carried = sum >>> BITS;
                }
            }
            for (int k = 0; k < PARTS; k++) {
                part[k] = product[k];
            }
        }

        int against(Wide other) {
            for (int k = PARTS - 1; k >= 0; k--) {
                if (part[k] != other.part[k]) {
                    return part[k] > other.part[k] ? 1 : -1;
                }
            }
            return 0;
        }
    }

    /** The worth of A t + B, and what its roots are. */
    private static final class Form {
        final long[] at = new long[5];
        final long[] rest = new long[5];
        final Table sum = new Table();
        final Wide left = new Wide();
        final Wide right = new Wide();
        /** The invariants I and J that the document names. */
        long invariantI;
        long invariantJ;
        final int[] over = new int[4];
        final int[] under = new int[4];
        int fractions;

        /** Five worths tell all five numbers: those at t beyond all, 0, 1, -1 and 2. */
        void read(Table one, int m, Table other, int q) {
            long a = worthOf(one, m, other, 0);
            long e = worthOf(one, 0, other, q);
            long atOne = worthOf(one, m, other, q);
            long atLess = worthOf(one, -m, other, q);
            long atTwo = worthOf(one, 2 * m, other, q);
            long c = (atOne + atLess) / 2 - a - e;
            long odd = (atOne - atLess) / 2;
            long b = (atTwo - 16 * a - 4 * c - e - 2 * odd) / 6;
            long d = odd - b;
            at[0] = a;
            at[1] = b;
            at[2] = c;
            at[3] = d;
            at[4] = e;
            invariantI = 12 * a * e - 3 * b * d + c * c;
            invariantJ = 72 * a * c * e + 9 * b * c * d - 27 * a * d * d - 27 * e * b * b - 2 * c * c * c;
        }

        private long worthOf(Table one, int m, Table other, int q) {
            sum.sumOf(one, m, other, q);
            return sum.worth();
        }

        /** -1: all numbers are 0. */
        int degree() {
            for (int k = 0; k < 5; k++) {
                if (at[k] != 0) {
                    return 4 - k;
                }
            }
            return -1;
        }

        boolean isNought() {
            return degree() < 0;
        }

        /** PATTERN, 0 if all are roots. */
        int figures() {
            switch (degree()) {
                case 4:
                    return figuresOfFour();
                case 3:
                    return figuresOfThree();
                case 2:
                    return figuresOfTwo();
                case 1:
                    return 13;
                case 0:
                    return 4;
                default:
                    return 0;
            }
        }

        private int figuresOfTwo() {
            int sign = signOf(at[3] * at[3] - 4 * at[2] * at[4]);
            if (sign == 0) {
                return 22;
            }
            return sign > 0 ? 112 : 25;
        }

        private int figuresOfThree() {
            int sign = signOfApartness();
            if (sign != 0) {
                return sign > 0 ? 1111 : 115;
            }
            if (invariantI == 0) {
                return 31;
            }
            // J's sign against b's tells on which side of the root that counts twice the other one lies
            return signOf(invariantJ) == signOf(at[1]) ? 211 : 121;
        }

        private int figuresOfFour() {
            int sign = signOfApartness();
            if (sign < 0) {
                return 115;
            }
            boolean allReal = eightACLessThreeBB() < 0 && signOfSpread() < 0;
            if (sign > 0) {
                return allReal ? 1111 : 55;
            }
            // with the middle of all roots as 0: how the roots lean to one side of it
            int lean = signOf(leaning()) * signOf(at[0]);
            if (invariantI == 0) {
                return lean == 0 ? 4 : lean > 0 ? 13 : 31;
            }
            if (lean == 0 && signOfSpread() == 0) {
                return eightACLessThreeBB() < 0 ? 22 : 6;
            }
            if (!allReal) {
                return 25;
            }
            if (signOf(invariantJ) == signOf(at[0])) {
                return 121;
            }
            return lean < 0 ? 211 : 112;
        }

        /** The sign of 4 I I I - J J: 0 if some roots are alike. */
        private int signOfApartness() {
            if (invariantI <= 0) {
                return invariantI == 0 && invariantJ == 0 ? 0 : -1;
            }
            left.begin(4);
            left.multiply(invariantI);
            left.multiply(invariantI);
            left.multiply(invariantI);
            right.begin(Math.abs(invariantJ));
            right.multiply(Math.abs(invariantJ));
            return left.against(right);
        }

        private long eightACLessThreeBB() {
            return 8 * at[0] * at[2] - 3 * at[1] * at[1];
        }

        /** The sign of 16 a a I - P P with P = 8 a c - 3 b b. */
        private int signOfSpread() {
            long p = Math.abs(eightACLessThreeBB());
            if (invariantI <= 0) {
                return invariantI == 0 && p == 0 ? 0 : -1;
            }
            left.begin(16);
            left.multiply(Math.abs(at[0]));
            left.multiply(Math.abs(at[0]));
            left.multiply(invariantI);
            right.begin(p);
            right.multiply(p);
            return left.against(right);
        }

        private long leaning() {
            return at[1] * at[1] * at[1] + 8 * at[0] * at[0] * at[3] - 4 * at[0] * at[1] * at[2];
        }

        int realRoots() {
            int real = 0;
            int unread = figures();
            for (int k = 0; k < 4 && unread != 0; k++) {
                if (unread % 10 < 5) {
                    real++;
                }
                unread /= 10;
            }
            return real;
        }

        /** How many real roots there are but that beyond all, if each counts once, else -1. */
        int singleRoots() {
            boolean beyondAll = degree() < 4;
            int single = 0;
            int unread = figures();
            for (int k = 0; k < 4 && unread != 0; k++) {
                int figure = unread % 10;
                unread /= 10;
                if (figure >= 5) {
                    continue;
                }
                if (beyondAll) {
                    beyondAll = false;
                } else if (figure > 1) {
                    return -1;
                } else {
                    single++;
                }
            }
            return single;
        }

        /** Of two balls two roots are below 0; two that are above are among all real ones. */
        int meetingOfBalls() {
            int last = figures() % 10;
            if (last >= 5 || signChanges(at) != 2) {
                return SHARE_ROOM;
            }
            return last == 1 ? APART : TOUCH;
        }

        long worthAt(long m, long q) {
            return valueBy(at, 4, m, q);
        }

        private static long valueBy(long[] row, int degree, long m, long q) {
            long value = 0;
            long power = 1;
            for (int k = 0; k <= degree && k < row.length; k++) {
                value = value * m + row[k] * power;
                power *= q;
            }
            return value;
        }

        /** All roots that are fractions of small numbers, from the least on. */
        void findFractions() {
            fractions = 0;
            int degree = degree();
            if (degree < 0) {
                return;
            }
            long foremost = at[4 - degree];
            for (int q = 1; q <= GREATEST_FRACTION; q++) {
                // the lower number of a root divides the foremost number
                if (foremost % q == 0) {
                    findFractionsBy(q);
                }
            }
        }

        private void findFractionsBy(int q) {
            for (int m = -GREATEST_FRACTION; m <= GREATEST_FRACTION; m++) {
                if (worthAt(m, q) == 0 && commonPart(m, q) == 1) {
                    keepFraction(m, q);
                }
            }
        }

        private void keepFraction(int m, int q) {
            if (fractions >= over.length) {
                return;
            }
            int slot = fractions;
            while (slot > 0 && over[slot - 1] * q > m * under[slot - 1]) {
                over[slot] = over[slot - 1];
                under[slot] = under[slot - 1];
                slot--;
            }
            over[slot] = m;
            under[slot] = q;
            fractions++;
        }

        /** How often the root m by q counts: how often q t - m divides the form. */
        int timesAt(long m, long q) {
            if (q == 0) {
                return 0;
            }
            for (int k = 0; k < 5; k++) {
                rest[k] = at[k];
            }
            int times = 0;
            for (int degree = 4; degree > 0; degree--) {
                if (valueBy(rest, degree, m, q) != 0) {
                    return times;
                }
                times++;
                rest[0] = rest[0] / q;
                for (int k = 1; k < degree; k++) {
                    rest[k] = (rest[k] + m * rest[k - 1]) / q;
                }
            }
            return times;
        }
    }

    /** The fractions from 0 by 1 to 1 by 0; the tree of n steps has each of them that is 256 / 2^n on. */
    private static final class Tree {
        final int[] over = new int[TREE_END + 1];
        final int[] under = new int[TREE_END + 1];
        final Table sum = new Table();
        int row;
        int changes;

        Tree() {
            under[0] = 1;
            over[TREE_END] = 1;
            for (int step = TREE_END; step > 1; step /= 2) {
                int half = step / 2;
                for (int k = half; k < TREE_END; k += step) {
                    over[k] = over[k - half] + over[k + half];
                    under[k] = under[k - half] + under[k + half];
                }
            }
        }

        void walk(Form form, Table a, Table b, int n) {
            row = 0;
            changes = 0;
            int figures = 0;
            int latestAbove = -1;
            int latestSign = 0;
            int last = (1 << n) - 1;
            int stride = TREE_END >> n;
            for (int k = -last; k <= last; k++) {
                int place = Math.min(Math.abs(k) * stride, TREE_END);
                long m = k < 0 ? -over[place] : over[place];
                long q = under[place];
                int sign = signOf(form.worthAt(m, q));
                if (sign == 0) {
                    continue;
                }
                if (latestSign != 0 && sign != latestSign) {
                    changes++;
                }
                latestSign = sign;
                sum.sumOf(a, m, b, q);
                sum.readSigns();
                if (sum.above != latestAbove && figures < MOST_FIGURES) {
                    row = 10 * row + sum.above;
                    figures++;
                }
                latestAbove = sum.above;
            }
        }
    }

    /** Whole places that grounds share, the first hundred kept. */
    private static final class Search {
        final int[] kept = new int[3 * KEPT];
        int found;

        int seek(Table a, Table b, Table c, int n) {
            found = 0;
            for (int x = -n; x <= n; x++) {
                for (int y = -n; y <= n; y++) {
                    a.tellAlong(x, y);
                    b.tellAlong(x, y);
                    c.tellAlong(x, y);
                    for (int z = -n; z <= n; z++) {
                        if (a.isOnAt(z) && b.isOnAt(z) && c.isOnAt(z)) {
                            keep(x, y, z);
                        }
                    }
                }
            }
            return found;
        }

        private void keep(int x, int y, int z) {
            if (found < KEPT) {
                kept[3 * found] = x;
                kept[3 * found + 1] = y;
                kept[3 * found + 2] = z;
            }
            found++;
        }
    }
}
