import java.util.ArrayList;
import java.util.List;

/**
 * Promises 24 to 29 over many pairs of grounds of four squares (a t + b is one part of the FORM for each letter),
 * where all that is asked can be told from the four parts alone; and at what lies just this side of an edge and
 * just beyond it.
 */
public final class PencilEdgesTest {
    private static final Check CHECK = new Check("PencilEdgesTest");

    public static void main(String[] args) {
        pairsOfSquares();
        pairsOfBlocks();
        formsOfFewNumbers();
        rootsFourTimes();
        invariantsThatAreNought();
        stepsOfTheTree();
        betweenWithBeyondAll();
        betweenOfTwice();
        formToldLeaves();
        CHECK.end();
    }

    // ---- four squares

    private static void pairsOfSquares() {
        int[][] firsts = {
            {1, 1, 1, 1}, {1, -1, 1, 1}, {-1, -1, -1, 1}, {2, 1, 3, 1}, {4, 3, -2, 1}, {0, 1, 1, 1}, {0, -2, 1, 3},
            {0, 0, 1, 1}, {0, 0, 2, -3}, {0, 0, 0, 1}, {0, 0, 0, -4},
        };
        for (int[] a : firsts) {
            for (int k = 0; k < 625; k++) {
                int[] b = {k % 5 - 2, k / 5 % 5 - 2, k / 25 % 5 - 2, k / 125 - 2};
                if (b[0] != 0 || b[1] != 0 || b[2] != 0 || b[3] != 0) {
                    pairOfSquares(a, b);
                }
            }
        }
    }

    private static void pairOfSquares(int[] a, int[] b) {
        BentGrounds x = new BentGrounds();
        Check.squares(x, 3, a[0], a[1], a[2], a[3]);
        Check.squares(x, 8, b[0], b[1], b[2], b[3]);
        String what = java.util.Arrays.toString(a) + " and " + java.util.Arrays.toString(b);
        int[] form = {1};
        for (int i = 0; i < 4; i++) {
            form = times(form, a[i], b[i]);
        }
        formIs(x, what, form);
        List<int[]> roots = rootsOf(a, b);
        int pattern = 0;
        for (int[] root : roots) {
            pattern = 10 * pattern + root[2];
        }
        CHECK.due("pattern " + what, x.pattern(3, 8), pattern);
        CHECK.due("roots " + what, x.roots(3, 8), roots.isEmpty() ? 9 : roots.size());
        fractionsAre(x, what, roots);
        for (int n = 1; n <= 8; n++) {
            betweenIs(x, what, a, b, n, roots);
        }
    }

    private static int[] times(int[] form, int a, int b) {
        int[] more = new int[form.length + 1];
        for (int i = 0; i < form.length; i++) {
            more[i] += form[i] * a;
            more[i + 1] += form[i] * b;
        }
        return more;
    }

    private static void formIs(BentGrounds x, String what, int[] form) {
        int many = 0;
        for (int v : form) {
            many += v != 0 ? 1 : 0;
        }
        CHECK.due("form " + what, x.form(3, 8), many);
        for (int i = 0; i < 5; i++) {
            CHECK.tells("formTold(" + i + ") " + what, x, x.formTold(i), form[i]);
        }
    }

    /** From the least on, that beyond all (1 by 0) last: upper and lower number, how often; none if ALL are. */
    private static List<int[]> rootsOf(int[] a, int[] b) {
        List<int[]> roots = new ArrayList<>();
        for (int i = 0; i < 4; i++) {
            if (a[i] == 0 && b[i] == 0) {
                return new ArrayList<>();
            }
            int common = common(a[i], b[i]);
            int upper = a[i] == 0 ? 1 : -b[i] / common * Integer.signum(a[i]);
            add(roots, upper, Math.abs(a[i]) / common);
        }
        return roots;
    }

    private static int common(int a, int b) {
        return b == 0 ? Math.abs(a) : common(b, a % b);
    }

    private static void add(List<int[]> roots, int upper, int lower) {
        int at = 0;
        while (at < roots.size() && before(roots.get(at), upper, lower)) {
            at++;
        }
        if (at < roots.size() && roots.get(at)[0] == upper && roots.get(at)[1] == lower) {
            roots.get(at)[2]++;
        } else {
            roots.add(at, new int[] {upper, lower, 1});
        }
    }

    private static boolean before(int[] root, int upper, int lower) {
        if (root[1] == 0 || lower == 0) {
            return root[1] != 0;
        }
        return root[0] * lower < upper * root[1];
    }

    private static void fractionsAre(BentGrounds x, String what, List<int[]> roots) {
        if (roots.isEmpty()) {
            for (int i = -1; i < 5; i++) {
                int number = i;
                CHECK.refuses("rational " + i + " " + what, x, () -> x.rational(3, 8, number), BentGrounds.STATE);
            }
            return;
        }
        int finite = 0;
        for (int[] root : roots) {
            if (root[1] != 0) {
                CHECK.fraction("rational " + what, x, x.rational(3, 8, finite), root[2], root[0], root[1]);
                finite++;
            }
        }
        int end = finite;
        CHECK.refuses("rational, no more " + what, x, () -> x.rational(3, 8, end), BentGrounds.NONE);
        CHECK.refuses("rational, below 0 " + what, x, () -> x.rational(3, 8, -1), BentGrounds.NONE);
    }

    private static final List<List<int[]>> TREES = trees();

    /** The trees of 1 to 8 steps, each grown from the one before, without 1 by 0. */
    private static List<List<int[]>> trees() {
        List<List<int[]>> trees = new ArrayList<>();
        List<int[]> above = new ArrayList<>(List.of(new int[] {0, 1}, new int[] {1, 0}));
        for (int n = 1; n <= 8; n++) {
            List<int[]> grown = new ArrayList<>();
            for (int i = 0; i + 1 < above.size(); i++) {
                int[] one = above.get(i);
                int[] next = above.get(i + 1);
                grown.add(one);
                grown.add(new int[] {one[0] + next[0], one[1] + next[1]});
            }
            grown.add(new int[] {1, 0});
            above = grown;
            List<int[]> tree = new ArrayList<>();
            for (int i = above.size() - 2; i > 0; i--) {
                tree.add(new int[] {-above.get(i)[0], above.get(i)[1]});
            }
            for (int i = 0; i + 1 < above.size(); i++) {
                tree.add(above.get(i));
            }
            trees.add(tree);
        }
        return trees;
    }

    private static void betweenIs(BentGrounds x, String what, int[] a, int[] b, int n, List<int[]> roots) {
        int row = 0;
        int latest = -1;
        int changes = 0;
        int latestSign = 0;
        for (int[] f : TREES.get(n - 1)) {
            int above = 0;
            int sign = 1;
            for (int i = 0; i < 4; i++) {
                int v = a[i] * f[0] + b[i] * f[1];
                sign *= Integer.signum(v);
                above += v > 0 ? 1 : 0;
            }
            if (sign != 0) {
                row = above == latest ? row : 10 * row + above;
                changes += latestSign * sign < 0 ? 1 : 0;
                latest = above;
                latestSign = sign;
            }
        }
        int once = 0;
        boolean shown = !roots.isEmpty();
        for (int[] root : roots) {
            once += root[1] != 0 && root[2] == 1 ? 1 : 0;
            shown = shown && (root[1] == 0 || root[2] == 1);
        }
        shown = shown && changes == once;
        CHECK.due("between " + n + " " + what, x.between(3, 8, n), shown ? row : BentGrounds.SPENT);
        CHECK.due("between " + n + " " + what + ": asked()", x.asked(), row);
    }

    // ---- two blocks of two letters each: the FORM is the one's part times the other's

    private static void pairsOfBlocks() {
        long chance = 12345;
        for (int k = 0; k < 12000; k++) {
            int[] v = new int[12];
            int bound = 1 + k % 3;
            for (int i = 0; i < 12; i++) {
                chance = chance * 6364136223846793005L + 1442695040888963407L;
                v[i] = (int) ((chance >>> 33) % (2 * bound + 1)) - bound;
            }
            if (k % 4 == 0) {
                // the same block twice: every root twice
                System.arraycopy(v, 0, v, 6, 6);
            }
            pairOfBlocks(v);
        }
    }

    private static void pairOfBlocks(int[] v) {
        BentGrounds x = new BentGrounds();
        if (Check.ground(x, 0, v[0], v[1], 0, 0, v[2], 0, 0, v[6], v[7], v[8]) < 0
                || Check.ground(x, 1, v[3], v[4], 0, 0, v[5], 0, 0, v[9], v[10], v[11]) < 0) {
            return;
        }
        String what = java.util.Arrays.toString(v);
        long[] one = part(v, 0);
        long[] other = part(v, 6);
        if (isNought(one) || isNought(other)) {
            CHECK.due("pattern of blocks " + what, x.pattern(0, 1), 0);
            CHECK.due("roots of blocks " + what, x.roots(0, 1), 9);
            CHECK.due("rational of blocks " + what, x.rational(0, 1, 0), BentGrounds.STATE);
            return;
        }
        List<Double> reals = new ArrayList<>();
        List<Long> notReal = new ArrayList<>();
        rootsOfPart(one, reals, notReal);
        rootsOfPart(other, reals, notReal);
        int[] patternAndRoots = figures(reals);
        int pattern = patternAndRoots[0];
        if (notReal.size() == 1) {
            pattern = 10 * pattern + 5;
        } else if (notReal.size() == 2) {
            boolean alike = one[0] * other[1] == one[1] * other[0] && one[0] * other[2] == one[2] * other[0];
            pattern = alike ? 6 : 55;
        }
        CHECK.due("pattern of blocks " + what, x.pattern(0, 1), pattern);
        CHECK.due("roots of blocks " + what, x.roots(0, 1), patternAndRoots[1]);
    }

    /** (v0 t + v3)(v2 t + v5) less the square of (v1 t + v4). */
    private static long[] part(int[] v, int at) {
        long a = v[at] * v[at + 2] - v[at + 1] * v[at + 1];
        long b = v[at] * v[at + 5] + v[at + 3] * v[at + 2] - 2 * v[at + 1] * v[at + 4];
        long c = v[at + 3] * v[at + 5] - v[at + 4] * v[at + 4];
        return new long[] {a, b, c};
    }

    private static boolean isNought(long[] p) {
        return p[0] == 0 && p[1] == 0 && p[2] == 0;
    }

    private static void rootsOfPart(long[] p, List<Double> reals, List<Long> notReal) {
        if (p[0] == 0) {
            reals.add(Double.POSITIVE_INFINITY);
            reals.add(p[1] == 0 ? Double.POSITIVE_INFINITY : -(double) p[2] / p[1]);
            return;
        }
        long under = p[1] * p[1] - 4 * p[0] * p[2];
        if (under < 0) {
            notReal.add(under);
            return;
        }
        reals.add((-p[1] - Math.sqrt(under)) / (2 * p[0]));
        reals.add((-p[1] + Math.sqrt(under)) / (2 * p[0]));
    }

    /** Roots of such small numbers that are unlike are farther than a millionth from each other. */
    private static int[] figures(List<Double> reals) {
        java.util.Collections.sort(reals);
        int pattern = 0;
        int roots = 0;
        for (int i = 0; i < reals.size(); i++) {
            double root = reals.get(i);
            boolean alike = i > 0 && (root == reals.get(i - 1) || Math.abs(root - reals.get(i - 1)) < 1e-6);
            pattern = alike ? pattern + 1 : 10 * pattern + 1;
            roots += alike ? 0 : 1;
        }
        return new int[] {pattern, roots};
    }

    // ---- edges by name

    /** As many of a to e are not 0 as is told: from none to five. */
    private static void formsOfFewNumbers() {
        int[][] rows = {
            {1, 0, 0, 0, 2, 0, 0, 0, 0}, {0, 1, 1, 1, 1, 0, 0, 0, 1}, {1, 0, 0, 0, 0, 1, 1, 1, 1},
            {1, 1, 1, 1, 0, 0, 0, 1, 2}, {1, 1, 1, 1, 1, -1, 2, -2, 3}, {1, 1, 1, 0, 1, 1, 1, 2, 4},
            {1, 1, 1, 1, 1, 2, 3, 4, 5},
        };
        for (int[] r : rows) {
            BentGrounds x = new BentGrounds();
            Check.squares(x, 0, r[0], r[1], r[2], r[3]);
            Check.squares(x, 1, r[4], r[5], r[6], r[7]);
            CHECK.due("numbers that are not 0", x.form(0, 1), r[8]);
        }
        BentGrounds x = new BentGrounds();
        Check.squares(x, 0, 1, 1, 1, 1);
        Check.squares(x, 1, 1, 2, 3, 4);
        CHECK.due("one ground twice", x.form(1, 1), 5);
        CHECK.tells("24 (t + 1) four times", x, x.formTold(2), 144);
    }

    private static void rootsFourTimes() {
        BentGrounds x = new BentGrounds();
        Check.squares(x, 0, 1, 2, -1, 1);
        Check.squares(x, 1, 2, 4, -2, 2);
        CHECK.due("-2 four times", x.pattern(0, 1), 4);
        CHECK.due("one root", x.roots(0, 1), 1);
        CHECK.fraction("-2 four times", x, x.rational(0, 1, 0), 4, -2, 1);
        CHECK.due("between: SPENT", x.between(0, 1, 8), BentGrounds.SPENT);
        CHECK.due("between: the ROW", x.asked(), 13);
        CHECK.fraction("-1 by 2 four times", x, x.rational(1, 0, 0), 4, -1, 2);
        Check.squares(x, 2, 1, 0, 0, 0);
        CHECK.fraction("-1 once", x, x.rational(0, 2, 0), 1, -1, 1);
        CHECK.fraction("0 three times", x, x.rational(0, 2, 1), 3, 0, 1);
    }

    /** I or J is 0, or both are, or I is below 0. */
    private static void invariantsThatAreNought() {
        BentGrounds x = new BentGrounds();
        Check.squares(x, 0, 1, 1, 1, -1);
        Check.ground(x, 1, 0, 1, 0, 0, 0, 0, 0, 0, 1, 0);
        CHECK.due("(t t - 1)(t t + 1): J is 0, I below 0", x.pattern(0, 1), 115);
        Check.ground(x, 2, 1, -1, 0, 0, 0, 0, -1, -1, 0, 0);
        Check.ground(x, 3, 0, 0, 0, 0, -1, -1, 0, 1, 0, 1);
        CHECK.due("t t t t - 2 t: I is 0", x.pattern(2, 3), 115);
        CHECK.due("the other way: 1 - 2 t t t", x.pattern(3, 2), 115);
        Check.ground(x, 4, 0, -1, 0, 0, 0, 0, 0, -1, -1, 0);
        Check.ground(x, 5, 0, 0, 0, -1, 1, 0, 0, 0, 0, 0);
        CHECK.due("t t t t + t: I is 0", x.pattern(4, 5), 115);
        CHECK.fraction("-1", x, x.rational(4, 5, 0), 1, -1, 1);
        CHECK.fraction("0", x, x.rational(4, 5, 1), 1, 0, 1);
        CHECK.due("two roots", x.roots(4, 5), 2);
    }

    /** Pairs that are SHOWN from a number of steps on, and SPENT with one less. */
    private static void stepsOfTheTree() {
        shownFrom(2, 12343, new int[] {3, 0, 0, -2, 1, 0, -2, 2, -3, 3}, new int[] {1, 0, 0, 3, 4, 0, 3, 1, 1, -1});
        shownFrom(3, 232, new int[] {0, 1, 1, -1, -1, 0, 0, 0, 0, 1}, new int[] {1, 1, -1, 0, 1, 1, 0, 1, 0, 0});
        shownFrom(4, 123, new int[] {1, 0, 0, -3, 4, 0, -3, 1, 3, -4}, new int[] {2, 0, 0, 3, 3, 0, 2, 4, 1, -2});
        shownFrom(5, 12343, new int[] {2, 0, 0, 0, 3, 0, 1, 2, 3, 2}, new int[] {2, 0, 0, -1, 4, 0, 3, 2, 0, 3});
        shownFrom(6, 1234, new int[] {1, 0, 0, -1, 3, 0, 0, 4, 0, 4}, new int[] {2, 0, 0, 3, 1, 0, -3, 1, -1, 1});
        shownFrom(7, 123, new int[] {1, 0, 0, -1, 2, 0, -3, 3, 2, -3}, new int[] {2, 0, 0, 1, 2, 0, -3, 3, 1, -2});
        shownFrom(8, 123, new int[] {3, 0, 0, -2, 3, 0, 0, 3, 3, 2}, new int[] {4, 0, 0, -3, 4, 0, 2, 3, -3, -3});
        shownFrom(8, 10123, new int[] {4, 0, 0, 0, 4, 0, 3, 3, -2, 3}, new int[] {1, 0, 0, 1, 2, 0, 3, 2, 0, -2});
    }

    private static void shownFrom(int steps, int row, int[] one, int[] other) {
        BentGrounds x = new BentGrounds();
        Check.ground(x, 0, one);
        Check.ground(x, 1, other);
        for (int n = 1; n <= 8; n++) {
            CHECK.due("shown from " + steps + ", n " + n, x.between(0, 1, n), n < steps ? BentGrounds.SPENT : row);
            if (n >= steps) {
                CHECK.due("its row", x.asked(), row);
            }
        }
    }

    /** That beyond all is not asked to be shown, however often it counts. */
    private static void betweenWithBeyondAll() {
        BentGrounds x = new BentGrounds();
        int[][] rows = {
            {0, 1, 1, 1, 1, 1, 2, -1, 1234}, {0, 1, 1, -1, -1, 1, 2, 3, 1232}, {0, 0, 1, 1, 1, 1, 1, 2, 234},
            {0, 0, 0, 1, 1, 1, 1, 1, 34}, {0, 0, 0, -1, -1, -1, -1, 1, 10},
        };
        for (int[] r : rows) {
            Check.squares(x, 0, r[0], r[1], r[2], r[3]);
            Check.squares(x, 1, r[4], r[5], r[6], r[7]);
            CHECK.due("shown without beyond all: " + r[8], x.between(0, 1, 8), r[8]);
        }
        Check.ground(x, 2, 0, 0, 0, 1, 0, 1, 0, 0, 0, 0);
        Check.ground(x, 3, 1, 0, 0, 0, 0, 0, 0, 0, 0, 0);
        CHECK.due("beyond all four times", x.pattern(3, 2), 4);
        CHECK.due("no other root: shown", x.between(3, 2, 1), 2);
        CHECK.due("and told", x.asked(), 2);
    }

    /** No change of sign is seen, and none is looked for, but one counts more often. */
    private static void betweenOfTwice() {
        BentGrounds x = new BentGrounds();
        Check.squares(x, 0, 1, -1, 1, 1);
        Check.squares(x, 1, 0, 0, 1, 1);
        CHECK.due("0 twice, -1 twice", x.pattern(0, 1), 22);
        CHECK.due("22: SPENT", x.between(0, 1, 4), BentGrounds.SPENT);
        CHECK.due("22: the ROW", x.asked(), 13);
        Check.squares(x, 2, 1, -1, 1, 1);
        Check.ground(x, 3, 0, 1, 0, 0, 0, 0, 0, 2, 0, 2);
        CHECK.due("-2 twice and two that are not real", x.pattern(2, 3), 25);
        CHECK.due("25: SPENT", x.between(2, 3, 4), BentGrounds.SPENT);
        CHECK.due("25: the ROW", x.asked(), 13);
        Check.squares(x, 4, 1, -1, 1, -1);
        Check.ground(x, 5, 0, 1, 0, 0, 0, 0, 0, 0, 1, 0);
        CHECK.due("twice, but not real", x.pattern(4, 5), 6);
        CHECK.due("6: shown", x.between(4, 5, 4), 2);
    }

    private static void formToldLeaves() {
        BentGrounds x = new BentGrounds();
        CHECK.finds("a form of none", x, () -> x.form(0, 1), 1);
        CHECK.refuses("no form was yet that was not refused", x, () -> x.formTold(0), BentGrounds.STATE);
        CHECK.refuses("BAD is ahead of STATE", x, () -> x.formTold(5), BentGrounds.BAD);
        CHECK.refuses("BAD is ahead of STATE", x, () -> x.formTold(-1), BentGrounds.BAD);
        Check.squares(x, 0, 1, 0, 0, 0);
        CHECK.due("a form of noughts", x.form(0, 0), 0);
        CHECK.tells("is a form", x, x.formTold(4), 0);
        Check.squares(x, 1, 1, 2, 3, 4);
        x.form(1, 1);
        CHECK.refuses("form(0, 12)", x, () -> x.form(0, 12), BentGrounds.BAD);
        CHECK.finds("form(0, 9)", x, () -> x.form(0, 9), 1);
        x.apart(0, 1);
        x.pattern(0, 1);
        CHECK.tells("the latest stays", x, x.formTold(0), 24);
    }
}
