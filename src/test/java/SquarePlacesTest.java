/** Promises 16 to 23 over all grounds of four squares -1, 0, 1 and all places and planes of numbers -1, 0, 1. */
public final class SquarePlacesTest {
    private static final Check CHECK = new Check("SquarePlacesTest");

    public static void main(String[] args) {
        for (int k = 0; k < 81; k++) {
            int[] s = digits(k);
            if (howMany(s, 0) < 4) {
                planesOf(s);
                for (int l = 0; l < 81; l++) {
                    int[] u = digits(l);
                    if (howMany(u, 0) < 4) {
                        placeOf(s, u);
                    }
                }
            }
        }
        linesWhereOneNumberIsLeft();
        lineThroughAll();
        oneSignBelow();
        middles();
        middlesThatAreNot();
        CHECK.end();
    }

    private static int[] digits(int k) {
        return new int[] {k % 3 - 1, k / 3 % 3 - 1, k / 9 % 3 - 1, k / 27 - 1};
    }

    private static int howMany(int[] of, int sign) {
        int many = 0;
        for (int v : of) {
            many += v == sign ? 1 : 0;
        }
        return many;
    }

    private static void placeOf(int[] s, int[] u) {
        BentGrounds x = new BentGrounds();
        Check.squares(x, 2, s[0], s[1], s[2], s[3]);
        Check.lay(x, 4, u);
        String what = java.util.Arrays.toString(s) + " at " + java.util.Arrays.toString(u);
        int value = 0;
        int[] pole = new int[4];
        for (int i = 0; i < 4; i++) {
            value += s[i] * u[i] * u[i];
            pole[i] = s[i] * u[i];
        }
        CHECK.tells("value " + what, x, x.value(2, 4), value);
        CHECK.due("lines " + what, x.lines(2, 4), value == 0 ? linesOf(s, pole) : 0);
        CHECK.due("tangent " + what, x.tangent(2, 4, 5), 1);
        for (int i = 0; i < 4; i++) {
            CHECK.tells("tangent " + what + ": " + i, x, x.lay(5, i, 0), pole[i]);
        }
    }

    /** The place is on the ground. */
    private static int linesOf(int[] s, int[] pole) {
        int above = howMany(s, 1);
        int below = howMany(s, -1);
        if (above == 2 && below == 2) {
            return 2;
        }
        if (above + below == 3) {
            return above == 3 || below == 3 ? 0 : howMany(pole, 0) == 4 ? 9 : 1;
        }
        if (above + below < 3) {
            return above == 2 || below == 2 ? 1 : 9;
        }
        return 0;
    }

    /** 2 i j + c c, a cone: at letter j alone its TANGENT has letter i alone, at the fourth letter it is all 0. */
    private static void linesWhereOneNumberIsLeft() {
        int[][] at = {{0, 1, 2, 3}, {1, 4, 5, 6}, {2, 5, 7, 8}, {3, 6, 8, 9}};
        for (int k = 0; k < 64; k++) {
            int i = k % 4;
            int j = k / 4 % 4;
            int c = k / 16;
            if (i == j || c == i || c == j) {
                continue;
            }
            int[] row = new int[10];
            row[at[i][j]] = 1;
            row[at[c][c]] = 1;
            BentGrounds x = new BentGrounds();
            CHECK.due("a cone", Check.ground(x, 0, row), 1);
            int[] want = {9, 9, 9, 9};
            want[i] = 1;
            want[j] = 1;
            want[c] = 0;
            for (int letter = 0; letter < 4; letter++) {
                int[] place = new int[4];
                place[letter] = 5;
                Check.lay(x, 1, place);
                CHECK.due("lines of " + i + j + c + " at " + letter, x.lines(0, 1), want[letter]);
            }
        }
    }

    /** The plane of a letter leaves the other three; one of two alike or unlike letters puts both into one. */
    private static void planesOf(int[] s) {
        BentGrounds x = new BentGrounds();
        Check.squares(x, 1, s[0], s[1], s[2], s[3]);
        for (int i = 0; i < 4; i++) {
            int[] plane = new int[4];
            plane[i] = i % 2 == 0 ? 3 : -100;
            cutIs(x, s, plane, howMany(s, 1) - (s[i] > 0 ? 1 : 0), howMany(s, -1) - (s[i] < 0 ? 1 : 0));
            for (int j = i + 1; j < 4; j++) {
                int[] both = new int[4];
                both[i] = 7;
                both[j] = i == 1 ? 7 : -7;
                int sum = s[i] + s[j];
                int above = sum > 0 ? 1 : 0;
                int below = sum < 0 ? 1 : 0;
                for (int k = 0; k < 4; k++) {
                    above += k != i && k != j && s[k] > 0 ? 1 : 0;
                    below += k != i && k != j && s[k] < 0 ? 1 : 0;
                }
                cutIs(x, s, both, above, below);
            }
        }
    }

    private static void cutIs(BentGrounds x, int[] s, int[] plane, int above, int below) {
        Check.lay(x, 0, plane);
        String what = java.util.Arrays.toString(s) + " by " + java.util.Arrays.toString(plane);
        CHECK.due("cut " + what, x.cut(1, 0), Math.max(10 * above + below, 10 * below + above));
        CHECK.due("touches " + what, x.touches(1, 0), above + below <= 2 ? 1 : 0);
    }

    /** A s s + 2 B s t + C t t by a ground of three squares and one of two letters. */
    private static void lineThroughAll() {
        for (int k = 0; k < 81; k++) {
            for (int l = 0; l < 81; l += 5) {
                int[] u = digits(k);
                int[] v = digits(l);
                BentGrounds x = new BentGrounds();
                Check.squares(x, 0, 2, -1, 1, -2);
                Check.lay(x, 0, u);
                Check.lay(x, 1, v);
                int a = 2 * u[0] * u[0] - u[1] * u[1] + u[2] * u[2] - 2 * u[3] * u[3];
                int b = 2 * u[0] * v[0] - u[1] * v[1] + u[2] * v[2] - 2 * u[3] * v[3];
                int c = 2 * v[0] * v[0] - v[1] * v[1] + v[2] * v[2] - 2 * v[3] * v[3];
                String what = java.util.Arrays.toString(u) + " and " + java.util.Arrays.toString(v);
                if (isMultiple(u, v)) {
                    CHECK.finds("line " + what, x, () -> x.line(0, 0, 1), 4);
                    continue;
                }
                int want = a == 0 && b == 0 && c == 0 ? 9 : b * b > a * c ? 2 : b * b == a * c ? 1 : 0;
                CHECK.due("line " + what, x.line(0, 0, 1), want);
                CHECK.tells("A " + what, x, x.lineTold(0), a);
                CHECK.tells("B " + what, x, x.lineTold(1), b);
                CHECK.tells("C " + what, x, x.lineTold(2), c);
            }
        }
    }

    /** Of numbers -1, 0, 1: alike, opposite, or one is none. */
    private static boolean isMultiple(int[] u, int[] v) {
        boolean alike = true;
        boolean opposite = true;
        for (int i = 0; i < 4; i++) {
            alike = alike && u[i] == v[i];
            opposite = opposite && u[i] == -v[i];
        }
        return alike || opposite || howMany(u, 0) == 4 || howMany(v, 0) == 4;
    }

    /** c below d is told as d, c. */
    private static void oneSignBelow() {
        BentGrounds x = new BentGrounds();
        Check.squares(x, 0, -1, -1, 1, 1);
        Check.lay(x, 0, 0, 0, 0, 1);
        CHECK.due("one above, two below", x.cut(0, 0), 21);
        Check.squares(x, 0, -1, 0, -1, 1);
        CHECK.due("two below", x.cut(0, 0), 20);
        Check.squares(x, 0, -1, 0, 0, 1);
        CHECK.due("one below", x.cut(0, 0), 10);
        Check.squares(x, 0, -1, -1, -1, 1);
        CHECK.due("three below", x.cut(0, 0), 30);
    }

    private static int common(int a, int b) {
        return b == 0 ? Math.abs(a) : common(b, a % b);
    }

    private static void middles() {
        for (int letter = 0; letter < 3; letter++) {
            for (int k = -4; k <= 4; k++) {
                for (int p = -4; p <= 4; p++) {
                    if (k != 0) {
                        middleOf(letter, k, p);
                    }
                }
            }
        }
    }

    /** k at one letter's square and 2 p at the letter itself: it is -p by k. */
    private static void middleOf(int letter, int k, int p) {
        int[] row = {1, 0, 0, 2, -3, 0, 1, 4, -3, 1};
        int[] squares = {0, 4, 7};
        int[] far = {3, 6, 8};
        row[squares[letter]] = k;
        row[far[letter]] = p;
        BentGrounds x = new BentGrounds();
        Check.ground(x, 0, row);
        for (int i = 0; i < 3; i++) {
            int under = row[squares[i]];
            int over = -row[far[i]];
            int common = common(over, under) * Integer.signum(under);
            CHECK.fraction("middle of " + under + " and " + over, x, x.middle(0, i), 1, over / common, under / common);
        }
    }

    private static void middlesThatAreNot() {
        for (int letter = 0; letter < 3; letter++) {
            int[] s = {1, 1, 1, -1};
            s[letter] = 0;
            BentGrounds x = new BentGrounds();
            Check.squares(x, 0, s[0], s[1], s[2], s[3]);
            for (int i = 0; i < 3; i++) {
                int number = i;
                CHECK.finds("none", x, () -> x.middle(0, number), 4);
            }
        }
        BentGrounds x = new BentGrounds();
        Check.squares(x, 0, 0, 0, 0, 1);
        CHECK.finds("the far plane has none", x, () -> x.middle(0, 2), 4);
        CHECK.refuses("BAD is ahead", x, () -> x.middle(0, 3), BentGrounds.BAD);
        Check.ground(x, 1, 1, 1, 0, 0, 1, 0, 0, 1, 0, 0);
        CHECK.finds("two rows alike", x, () -> x.middle(1, 0), 4);
        Check.ground(x, 2, 0, 1, 0, 3, 0, 0, 2, 1, 0, 0);
        CHECK.fraction("by mixed numbers alone: x", x, x.middle(2, 0), 1, -2, 1);
        CHECK.fraction("by mixed numbers alone: y", x, x.middle(2, 1), 1, -3, 1);
        CHECK.fraction("by mixed numbers alone: z", x, x.middle(2, 2), 1, 0, 1);
    }
}
