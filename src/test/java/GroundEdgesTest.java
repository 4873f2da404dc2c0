/** Promises 6 to 15 at every end, over all grounds of four squares and all shears of small ones. */
public final class GroundEdgesTest {
    private static final Check CHECK = new Check("GroundEdgesTest");

    public static void main(String[] args) {
        numbersOfGround();
        sizesOfGround();
        groundIsItsOwn();
        refusedGroundLeaves();
        allOfSquares();
        marksOfRuled();
        pairsOfSquares();
        shears();
        shearsOfOtherLetters();
        swaps();
        swapsOfOne();
        turns();
        oneAmongOthers();
        CHECK.end();
    }

    private static void numbersOfGround() {
        for (int k = 0; k < 10; k++) {
            for (int v : new int[] {4, -4, 1, -1}) {
                int[] row = new int[10];
                row[k] = v;
                BentGrounds x = new BentGrounds();
                CHECK.due("number " + k + " is " + v, Check.ground(x, 0, row) >= 0 ? 1 : 0, 1);
                CHECK.due("no finding", x.finding(), 0);
            }
            for (int v : new int[] {5, -5, 6, 100, Integer.MAX_VALUE, Integer.MIN_VALUE}) {
                int[] row = new int[10];
                row[k] = v;
                BentGrounds x = new BentGrounds();
                Check.lay(x, 3, row);
                CHECK.finds("number " + k + " is " + v, x, () -> x.ground(0, 3), 2);
                x.lay(3, (k + 1) % 10, 1);
                CHECK.finds("number " + k + " is " + v + " among others", x, () -> x.ground(0, 3), 2);
            }
        }
    }

    private static void sizesOfGround() {
        for (int size = 0; size <= 16; size++) {
            BentGrounds x = new BentGrounds();
            int[] row = new int[size];
            for (int i = 0; i < size; i++) {
                row[i] = i < 10 ? 2 : 99;
            }
            Check.lay(x, 3, row);
            if (size == 0) {
                CHECK.finds("a sheet of none", x, () -> x.ground(0, 3), 4);
            } else {
                CHECK.due("a sheet of " + size, x.ground(0, 3) >= 0 ? 1 : 0, 1);
                CHECK.tells("xx", x, x.table(0, 0, 0), 2);
                CHECK.tells("ww", x, x.table(0, 3, 3), size < 10 ? 0 : 2);
                CHECK.tells("zw", x, x.table(0, 3, 2), size < 9 ? 0 : 2);
            }
            Check.lay(x, 4, new int[size]);
            CHECK.finds("a sheet of " + size + " noughts", x, () -> x.ground(0, 4), 4);
            for (int i = 10; i < size; i++) {
                x.lay(4, i, 1);
            }
            CHECK.finds("a sheet of " + size + ", the first ten noughts", x, () -> x.ground(0, 4), 4);
        }
    }

    private static void groundIsItsOwn() {
        BentGrounds x = new BentGrounds();
        for (int g = 0; g < 12; g++) {
            CHECK.due("ground " + g, Check.squares(x, g, 1, 1, 1, g % 2 == 0 ? -1 : 0), g % 2 == 0 ? 3 : 1);
        }
        CHECK.due("all are there", x.count(1), 12);
        CHECK.due("balls", x.count(2), 6);
        CHECK.due("cones", x.count(4), 6);
        x.lay(7, 0, -1);
        CHECK.tells("its sheet told otherwise", x, x.table(11, 0, 0), 1);
        x.tear(7);
        CHECK.tells("its sheet torn", x, x.told(0, 0), 3);
        CHECK.due("drop(5)", x.drop(5), 1);
        CHECK.finds("dropped", x, () -> x.told(5, 0), 1);
        CHECK.tells("the one before stays", x, x.told(4, 0), 3);
        CHECK.tells("the one behind stays", x, x.told(6, 0), 3);
        CHECK.due("one less", x.count(1), 11);
    }

    private static void refusedGroundLeaves() {
        BentGrounds x = new BentGrounds();
        Check.squares(x, 2, 1, 1, -1, -1);
        Check.lay(x, 0, 0, 0, 5);
        Check.lay(x, 1, 0, 0, 0);
        CHECK.finds("beyond", x, () -> x.ground(2, 0), 2);
        CHECK.tells("it stays", x, x.told(2, 0), 4);
        CHECK.finds("all 0", x, () -> x.ground(2, 1), 4);
        CHECK.tells("it stays", x, x.told(2, 0), 4);
        CHECK.finds("no sheet", x, () -> x.ground(2, 5), 1);
        CHECK.tells("it stays", x, x.told(2, 0), 4);
        CHECK.finds("beyond, none there", x, () -> x.ground(3, 0), 2);
        CHECK.finds("and none comes", x, () -> x.told(3, 0), 1);
        CHECK.due("told anew", Check.squares(x, 2, 1, 0, 0, 0), 2);
        CHECK.tells("it is another thing", x, x.told(2, 0), 2);
    }

    /** The four squares of which number k tells each sign by threes: -1, 0, 1. */
    private static int[] squaresOf(int k) {
        return new int[] {k % 3 - 1, k / 3 % 3 - 1, k / 9 % 3 - 1, k / 27 - 1};
    }

    private static int howMany(int[] of, int first, int end, int sign) {
        int many = 0;
        for (int i = first; i < end; i++) {
            many += of[i] == sign ? 1 : 0;
        }
        return many;
    }

    private static int[] factsOf(int[] s) {
        int a = howMany(s, 0, 4, 1);
        int b = howMany(s, 0, 4, -1);
        int c = howMany(s, 0, 3, 1);
        int d = howMany(s, 0, 3, -1);
        int kind = 0;
        if (a == 3 && b == 1 && c == 3 || b == 3 && a == 1 && d == 3) {
            kind = 3;
        } else if (a == 2 && b == 2) {
            kind = 4;
        } else if (a + b == 3) {
            kind = 1;
        } else if (a + b < 3) {
            kind = 2;
        }
        int name = Math.max(1000 * a + 100 * b + 10 * c + d, 1000 * b + 100 * a + 10 * d + c);
        return new int[] {kind, a, b, 4 - a - b, c, d, 3 - c - d, s[0] * s[1] * s[2] * s[3], s[0] * s[1] * s[2], name};
    }

    /** All 80 of them: KIND, told(), mark() by every KIND, count(), and the same of the TABLE with its signs turned. */
    private static void allOfSquares() {
        for (int k = 0; k < 81; k++) {
            int[] s = squaresOf(k);
            if (howMany(s, 0, 4, 0) == 4) {
                continue;
            }
            BentGrounds x = new BentGrounds();
            int[] facts = factsOf(s);
            CHECK.due("kind of " + k, Check.squares(x, 1, s[0], s[1], s[2], s[3]), facts[0]);
            factsAre(x, k, facts);
            marksAre(x, k, facts);
            CHECK.due("count(1) of " + k, x.count(1), 1);
            CHECK.due("count(2) of " + k, x.count(2), facts[0] == 3 ? 1 : 0);
            CHECK.due("count(3) of " + k, x.count(3), facts[0] == 4 ? 1 : 0);
            CHECK.due("count(4) of " + k, x.count(4), facts[0] == 1 || facts[0] == 2 ? 1 : 0);
            int[] turned = factsOf(new int[] {-s[0], -s[1], -s[2], -s[3]});
            CHECK.due("turn() of " + k, x.turn(1), turned[0]);
            factsAre(x, k, turned);
            marksAre(x, k, turned);
            CHECK.due("a turned one keeps its name", turned[9], facts[9]);
        }
    }

    private static void factsAre(BentGrounds x, int k, int[] facts) {
        for (int what = 0; what < 10; what++) {
            CHECK.tells("told(" + what + ") of " + k, x, x.told(1, what), facts[what]);
        }
    }

    private static void marksAre(BentGrounds x, int k, int[] facts) {
        int kind = facts[0];
        int both = facts[1] > 0 && facts[2] > 0 ? 1 : 0;
        int[] want = {0, facts[3], both, facts[1] == 3 ? 1 : 0, 1};
        for (int asked = 1; asked <= 4; asked++) {
            String what = "mark(" + asked + ") of " + k;
            if (asked == kind || asked == 1 && kind == 2) {
                CHECK.due(what, x.mark(1, asked), want[asked]);
            } else {
                int unlike = asked;
                CHECK.finds(what, x, () -> x.mark(1, unlike), 3);
            }
        }
    }

    /** RATIONAL: the worths that are squares, among all of four squares and of some that are not. */
    private static void marksOfRuled() {
        for (int k = 0; k < 256; k++) {
            int a = 1 + k % 4;
            int b = 1 + k / 4 % 4;
            int c = 1 + k / 16 % 4;
            int d = 1 + k / 64;
            long root = Math.round(Math.sqrt(a * b * c * d));
            BentGrounds x = new BentGrounds();
            CHECK.due("ruled", Check.squares(x, 0, a, -b, -c, d), 4);
            CHECK.due("mark of worth " + a * b * c * d, x.mark(0, 4), root * root == a * b * c * d ? 1 : 0);
        }
        BentGrounds x = new BentGrounds();
        CHECK.due("ruled", Check.ground(x, 0, 4, 4, 4, 4, 4, -4, -4, -4, 4, -4), 4);
        CHECK.tells("the greatest worth", x, x.told(0, 7), 4096);
        CHECK.due("64 times 64", x.mark(0, 4), 1);
        CHECK.due("ruled", Check.ground(x, 0, 4, 4, 4, 4, 4, -4, -4, -4, 4, -3), 4);
        CHECK.tells("a great worth", x, x.told(0, 7), 3840);
        CHECK.due("no square", x.mark(0, 4), 0);
    }

    private static void pairsOfSquares() {
        for (int k = 0; k < 81; k++) {
            for (int l = 0; l < 81; l++) {
                if (k != 40 && l != 40) {
                    pairOf(squaresOf(k), squaresOf(l), k + " and " + l);
                }
            }
        }
    }

    private static void pairOf(int[] s, int[] t, String what) {
        BentGrounds x = new BentGrounds();
        Check.squares(x, 0, s[0], s[1], s[2], s[3]);
        Check.squares(x, 11, t[0], t[1], t[2], t[3]);
        int[] one = factsOf(s);
        int[] other = factsOf(t);
        boolean straight = one[1] == other[1] && one[2] == other[2];
        boolean turned = one[1] == other[2] && one[2] == other[1];
        CHECK.due("same " + what, x.same(0, 11), straight || turned ? 1 : 0);
        CHECK.due("alike " + what, x.alike(0, 11), one[9] == other[9] ? 1 : 0);
    }

    /** p at letter i's square, q at i j, r at j's square, for each two letters. */
    private static void shears() {
        for (int p = -4; p <= 4; p++) {
            for (int q = -4; q <= 4; q++) {
                for (int r = -4; r <= 4; r++) {
                    for (int k = -2; k <= 2; k++) {
                        for (int pair = 0; pair < 16; pair++) {
                            shearOf(pair / 4, pair % 4, new int[] {p, q, r}, k);
                        }
                    }
                }
            }
        }
    }

    private static void shearOf(int i, int j, int[] of, int k) {
        if (i == j || of[0] == 0 && of[1] == 0 && of[2] == 0) {
            return;
        }
        int[] row = new int[10];
        row[AT[i][i]] = of[0];
        row[AT[i][j]] = of[1];
        row[AT[j][j]] = of[2];
        BentGrounds x = new BentGrounds();
        Check.ground(x, 0, row);
        int mixed = of[1] + k * of[0];
        int last = of[2] + 2 * k * of[1] + k * k * of[0];
        String what = "shear " + i + " " + j + " of " + java.util.Arrays.toString(of) + " by " + k;
        if (Math.abs(mixed) > 4 || Math.abs(last) > 4) {
            CHECK.finds(what, x, () -> x.shear(0, i, j, k), 2);
            CHECK.tells(what + ": i j stays", x, x.table(0, i, j), of[1]);
            CHECK.tells(what + ": j j stays", x, x.table(0, j, j), of[2]);
            return;
        }
        x.told(0, 1);
        int above = x.asked();
        CHECK.due(what, x.shear(0, i, j, k), 2);
        CHECK.tells(what + ": i i", x, x.table(0, i, i), of[0]);
        CHECK.tells(what + ": j i", x, x.table(0, j, i), mixed);
        CHECK.tells(what + ": j j", x, x.table(0, j, j), last);
        CHECK.tells(what + ": signs stay", x, x.told(0, 1), above);
        CHECK.due(what + " and back", x.shear(0, i, j, -k), 2);
        CHECK.tells(what + " and back: j j", x, x.table(0, j, j), of[2]);
    }

    private static final int[][] AT = {{0, 1, 2, 3}, {1, 4, 5, 6}, {2, 5, 7, 8}, {3, 6, 8, 9}};

    /** For each two letters i, j and a third one c: what was by i and c comes to j and c. */
    private static void shearsOfOtherLetters() {
        for (int i = 0; i < 4; i++) {
            for (int j = 0; j < 4; j++) {
                for (int c = 0; c < 4; c++) {
                    if (i != j && c != i && c != j) {
                        shearOfThird(i, j, c);
                    }
                }
            }
        }
    }

    private static void shearOfThird(int i, int j, int c) {
        for (int by = -4; by <= 4; by++) {
            for (int k = -2; k <= 2; k++) {
                int[] row = new int[10];
                row[AT[i][c]] = by;
                row[AT[j][c]] = 3;
                row[AT[c][c]] = -1;
                BentGrounds x = new BentGrounds();
                Check.ground(x, 4, row);
                int steps = k;
                String what = "shear(4, " + i + ", " + j + ", " + k + ") of " + by + " at " + c;
                if (Math.abs(3 + k * by) > 4) {
                    CHECK.finds(what, x, () -> x.shear(4, i, j, steps), 2);
                    continue;
                }
                CHECK.due(what, x.shear(4, i, j, k) >= 0 ? 1 : 0, 1);
                CHECK.tells(what + ": j c", x, x.table(4, j, c), 3 + k * by);
                CHECK.tells(what + ": c j", x, x.table(4, c, j), 3 + k * by);
                CHECK.tells(what + ": i c", x, x.table(4, i, c), by);
                CHECK.tells(what + ": j j", x, x.table(4, j, j), 0);
                CHECK.tells(what + ": c c", x, x.table(4, c, c), -1);
            }
        }
    }

    private static void swaps() {
        int[] row = {1, 2, 3, 4, -1, -2, -3, -4, 0, 1};
        for (int i = 0; i < 4; i++) {
            for (int j = 0; j < 4; j++) {
                BentGrounds x = new BentGrounds();
                int kind = Check.ground(x, 0, row);
                int[] letters = {0, 1, 2, 3};
                letters[i] = j;
                letters[j] = i;
                CHECK.due("swap(0, " + i + ", " + j + ")", x.swap(0, i, j) >= 0 ? 1 : 0, 1);
                for (int k = 0; k < 16; k++) {
                    int want = row[AT[letters[k / 4]][letters[k % 4]]];
                    CHECK.tells("swap(0, " + i + ", " + j + "): number " + k, x, x.table(0, k / 4, k % 4), want);
                }
                CHECK.due("and back", x.swap(0, j, i), kind);
            }
        }
    }

    /** A KIND hangs on which letter is the far one. */
    private static void swapsOfOne() {
        for (int far = 0; far < 4; far++) {
            for (int i = 0; i < 4; i++) {
                for (int j = 0; j < 4; j++) {
                    int[] s = {1, 1, 1, 1};
                    s[far] = -1;
                    BentGrounds x = new BentGrounds();
                    CHECK.due("far letter " + far, Check.squares(x, 0, s[0], s[1], s[2], s[3]), far == 3 ? 3 : 0);
                    int then = far == i ? j : far == j ? i : far;
                    CHECK.due("swap of " + i + " and " + j, x.swap(0, i, j), then == 3 ? 3 : 0);
                    CHECK.due("count(2)", x.count(2), then == 3 ? 1 : 0);
                }
            }
        }
    }

    private static void turns() {
        BentGrounds x = new BentGrounds();
        int[] row = {4, -4, 3, -3, 2, -2, 1, -1, 0, 4};
        int kind = Check.ground(x, 0, row);
        CHECK.due("turn", x.turn(0) >= 0 ? 1 : 0, 1);
        for (int k = 0; k < 16; k++) {
            CHECK.tells("turned: number " + k, x, x.table(0, k / 4, k % 4), -row[AT[k / 4][k % 4]]);
        }
        CHECK.due("turn back", x.turn(0), kind);
        CHECK.tells("4 again", x, x.table(0, 0, 0), 4);
    }

    /** What one becomes does not hang on which one was told or asked of last, and the others stay. */
    private static void oneAmongOthers() {
        BentGrounds x = new BentGrounds();
        Check.squares(x, 0, 1, 1, 1, -1);
        Check.squares(x, 1, 1, 2, -3, -4);
        Check.ground(x, 2, 1, 1);
        CHECK.due("shear(0)", x.shear(0, 3, 0, 1), 0);
        CHECK.tells("xx of it", x, x.table(0, 0, 0), 0);
        CHECK.tells("xw of it", x, x.table(0, 0, 3), -1);
        CHECK.due("swap(1)", x.swap(1, 0, 3), 4);
        CHECK.tells("xx of it", x, x.table(1, 0, 0), -4);
        CHECK.tells("ww of it", x, x.table(1, 3, 3), 1);
        CHECK.due("turn(2)", x.turn(2), 2);
        CHECK.tells("xx of it", x, x.table(2, 0, 0), -1);
        CHECK.tells("yy of it", x, x.table(2, 1, 1), 0);
        CHECK.tells("ground 0 stays", x, x.table(0, 1, 1), 1);
        CHECK.finds("beyond", x, () -> x.shear(1, 0, 1, 2), 2);
        CHECK.due("shear(2)", x.shear(2, 1, 0, -1), 2);
        CHECK.tells("a refused one leaves nothing", x, x.table(2, 0, 0), 1);
        CHECK.tells("yx of it", x, x.table(2, 1, 0), -1);
        Check.squares(x, 3, 1, 1, 1, 1);
        CHECK.due("shear(0) back", x.shear(0, 3, 0, -1), 3);
        CHECK.due("swap(1) back", x.swap(1, 3, 0), 4);
        CHECK.tells("ww of it", x, x.table(1, 3, 3), -4);
    }
}
