import java.util.ArrayList;
import java.util.List;
import java.util.Random;

/** Promises 30 to 34 held against what round balls' middles and radii tell, and against all places one by one. */
public final class BallEdgesTest {
    private static final Check CHECK = new Check("BallEdgesTest");

    public static void main(String[] args) {
        apartOfPairs();
        apartOfRootsThatAreNotReal();
        kindsThatAreUnlike();
        motions();
        motionsAtTheEnds();
        spentAtTheEdge();
        orderOfFindings();
        shortAndFarMotions();
        sharedOfAll();
        sharedAtTheEnds();
        hundredPlaces();
        CHECK.end();
    }

    /** k (x x + y y + z z) - 2 (p x + q y + r z) + w, with all signs turned if told so. */
    private record Round(int k, int p, int q, int r, int w, boolean turned) {
        /** The square of the radius, k k times. */
        int square() {
            return p * p + q * q + r * r - k * w;
        }

        void tell(BentGrounds x, int g) {
            int s = turned ? -1 : 1;
            Check.ground(x, g, s * k, 0, 0, -s * p, s * k, 0, -s * q, s * k, -s * r, s * w);
        }

        /** The numbers of a moved one are farther off: those of w that change. */
        Round movedBy(int a, int b, int c, int h) {
            int more = 2 * h * (p * a + q * b + r * c) + k * h * h * (a * a + b * b + c * c);
            return new Round(k, p + k * h * a, q + k * h * b, r + k * h * c, w + more, turned);
        }

        boolean isBeyond(int bound) {
            return Math.max(Math.max(Math.abs(p), Math.abs(q)), Math.max(Math.abs(r), Math.abs(w))) > bound;
        }

        /** 2, 1, 0 by the square of what is between the middles, against that of both radii together. */
        int meets(Round o) {
            long dx = (long) p * o.k - (long) o.p * k;
            long dy = (long) q * o.k - (long) o.q * k;
            long dz = (long) r * o.k - (long) o.r * k;
            long one = (long) square() * o.k * o.k;
            long other = (long) o.square() * k * k;
            long rest = dx * dx + dy * dy + dz * dz - one - other;
            long both = 4 * one * other;
            if (rest < 0 || rest * rest < both) {
                return 0;
            }
            return rest * rest == both ? 1 : 2;
        }
    }

    private static Round someRound(Random chance) {
        while (true) {
            int k = chance.nextInt(3) == 0 ? 1 + chance.nextInt(4) : 1;
            int[] v = new int[4];
            for (int i = 0; i < 4; i++) {
                v[i] = chance.nextInt(9) - 4;
            }
            Round round = new Round(k, v[0], chance.nextInt(2) * v[1], chance.nextInt(2) * v[2], v[3], chance.nextInt(4) == 0);
            if (round.square() > 0) {
                return round;
            }
        }
    }

    private static void apartOfPairs() {
        Random chance = new Random(30);
        int[] met = new int[3];
        for (int k = 0; k < 20000; k++) {
            Round one = someRound(chance);
            Round other = someRound(chance);
            BentGrounds x = new BentGrounds();
            one.tell(x, 0);
            other.tell(x, 11);
            int want = one.meets(other);
            met[want]++;
            CHECK.due("apart of " + one + " and " + other, x.apart(0, 11), want);
            CHECK.due("apart of " + other + " and " + one, x.apart(11, 0), want);
        }
        for (int want = 0; want < 3; want++) {
            CHECK.due("answers " + want + " came up: " + met[want], met[want] > 20 ? 1 : 0, 1);
        }
    }

    /** The FORM changes its sign twice, but the other two roots are not real, or some below 0 are alike. */
    private static void apartOfRootsThatAreNotReal() {
        int[][][] pairs = {
            {{1, 0, 0, 2, 1, 0, -1, 1, 2, 0}, {2, 0, 0, -3, 3, 0, 2, 1, -2, -1}, {115}},
            {{3, 0, 0, 1, 1, 0, -2, 4, -2, 2}, {4, 0, 0, 2, 1, 0, 2, 4, 2, -2}, {115}},
            {{2, 0, 0, 0, 1, 0, -2, 2, -2, -3}, {2, 0, 0, 3, 1, 0, 3, 2, 1, 3}, {25}},
            {{2, 0, 0, -1, 1, 0, -3, 1, 3, 0}, {4, 0, 0, 0, 2, 0, 2, 2, 0, 0}, {25}},
        };
        for (int[][] pair : pairs) {
            BentGrounds x = new BentGrounds();
            CHECK.due("a ball", Check.ground(x, 0, pair[0]), 3);
            CHECK.due("a ball", Check.ground(x, 1, pair[1]), 3);
            CHECK.due("pattern", x.pattern(0, 1), pair[2][0]);
            CHECK.due("apart", x.apart(0, 1), 0);
            x.turn(1);
            CHECK.due("apart, one turned", x.apart(0, 1), 0);
            x.turn(0);
            CHECK.due("apart, both turned", x.apart(1, 0), 0);
        }
    }

    private static void kindsThatAreUnlike() {
        int[][] others = {{1, 1, 1, 1}, {-1, 1, 1, 1}, {1, 1, 1, 0}, {1, 1, 0, 0}, {1, 1, -1, -1}, {1, 1, 0, -1}};
        for (int[] s : others) {
            BentGrounds x = new BentGrounds();
            Check.round(x, 0, 0, 0, 0, -1);
            Check.squares(x, 1, s[0], s[1], s[2], s[3]);
            Check.lay(x, 0, 0, 0, 0);
            CHECK.finds("apart: the second", x, () -> x.apart(0, 1), 3);
            CHECK.finds("apart: the first", x, () -> x.apart(1, 0), 3);
            CHECK.finds("first: the second", x, () -> x.first(0, 1, 0, 0), 3);
            CHECK.finds("first: the first", x, () -> x.first(1, 0, 0, 0), 3);
        }
    }

    private static void motionIs(Round one, Round other, int[] by, int n) {
        int met = BentGrounds.NONE;
        boolean far = false;
        for (int h = n; h >= 0; h--) {
            Round moved = other.movedBy(by[0], by[1], by[2], h);
            far = far || moved.isBeyond(30);
            met = one.meets(moved) != 2 ? h : met;
        }
        int due = far ? BentGrounds.SPENT : met;
        BentGrounds x = new BentGrounds();
        one.tell(x, 4);
        other.tell(x, 5);
        Check.lay(x, 1, by);
        String what = "first of " + one + " and " + other + " by " + java.util.Arrays.toString(by) + " to " + n;
        if (due < 0) {
            CHECK.refuses(what, x, () -> x.first(4, 5, 1, n), due);
        } else {
            CHECK.due(what, x.first(4, 5, 1, n), due);
        }
    }

    private static void motions() {
        Random chance = new Random(31);
        for (int k = 0; k < 20000; k++) {
            int bound = 1 + chance.nextInt(chance.nextInt(4) == 0 ? 4 : 2);
            int[] by = new int[3];
            for (int i = 0; i < 3; i++) {
                by[i] = chance.nextInt(2) * (chance.nextInt(2 * bound + 1) - bound);
            }
            motionIs(someRound(chance), someRound(chance), by, chance.nextInt(10) == 0 ? chance.nextInt(21) : chance.nextInt(5));
        }
    }

    /** Each letter alone, both ways, from or to a ball that touches (w 3) at the first or the second step. */
    private static void motionsAtTheEnds() {
        for (int i = 0; i < 3; i++) {
            for (int sign = -1; sign <= 1; sign += 2) {
                int[] at = new int[3];
                at[i] = 2 * sign;
                int[] by = new int[3];
                by[i] = -sign;
                int[] away = new int[3];
                away[i] = sign;
                Round still = new Round(1, 0, 0, 0, -1, false);
                for (int w = -4; w <= 3; w++) {
                    Round coming = new Round(1, at[0], at[1], at[2], w, false);
                    for (int n = 0; n <= 3; n++) {
                        motionIs(still, coming, by, n);
                        motionIs(still, coming, away, n);
                        motionIs(coming, still, by, n);
                        motionIs(coming, still, away, n);
                    }
                }
            }
        }
        int[] none = {0, 0, 0};
        motionIs(new Round(1, 0, 0, 0, -1, false), new Round(1, 3, 2, 0, 4, false), none, 20);
        motionIs(new Round(1, 0, 0, 0, -1, false), new Round(1, 2, 0, 0, 3, false), none, 20);
        motionIs(new Round(1, 0, 0, 0, -1, false), new Round(1, 0, 0, 0, -4, true), none, 20);
    }

    /** A MOVED TABLE's number is 30 or -30, and one more. */
    private static void spentAtTheEdge() {
        BentGrounds x = new BentGrounds();
        Check.round(x, 0, 0, 0, 0, -1);
        int[][] rows = {
            // k, p, w, by, n, answer: w goes to w + 2 h p by + k h h by by
            {1, 0, -2, 4, 2, -6}, {1, -4, -2, 4, 2, 0}, {1, 0, -2, 2, 2, 0}, {1, 0, -2, 1, 5, 0}, {1, 0, -2, 1, 6, -6},
            {1, -1, -2, 2, 3, 0}, {1, -1, -1, 2, 3, 0}, {1, -1, 0, 4, 1, 0}, {2, 0, -2, 4, 1, 0}, {2, 0, -1, 4, 1, -6},
        };
        for (int[] r : rows) {
            int w = r[2] + 2 * r[4] * r[1] * r[3] + r[0] * r[4] * r[4] * r[3] * r[3];
            Round moved = new Round(r[0], r[1], 0, 0, r[2], false);
            for (int turned = 0; turned < 2; turned++) {
                for (int letter = 0; letter < 3; letter++) {
                    int[] by = new int[3];
                    by[letter] = r[3];
                    int[] p = new int[3];
                    p[letter] = r[1];
                    motionIs(new Round(1, 0, 0, 0, -1, false), new Round(r[0], p[0], p[1], p[2], r[2], turned == 1), by, r[4]);
                }
            }
            CHECK.due("w " + w, moved.movedBy(r[3], 0, 0, r[4]).w(), w);
        }
        Check.lay(x, 0, 4, 0, 0);
        Check.squares(x, 1, 2, 1, 1, -2);
        CHECK.due("30 at 1", x.first(0, 1, 0, 1), 0);
        x.turn(1);
        CHECK.due("-30 at 1", x.first(0, 1, 0, 1), 0);
        Check.squares(x, 1, 2, 1, 1, -1);
        CHECK.refuses("31 at 1", x, () -> x.first(0, 1, 0, 1), BentGrounds.SPENT);
        x.turn(1);
        CHECK.refuses("-31 at 1", x, () -> x.first(0, 1, 0, 1), BentGrounds.SPENT);
        CHECK.due("to 0", x.first(0, 1, 0, 0), 0);
    }

    /** BAD, NOTHING, UNLIKE, SIZE, BEYOND, SPENT: that which is earlier in this row is told. */
    private static void orderOfFindings() {
        BentGrounds x = new BentGrounds();
        Check.round(x, 0, 0, 0, 0, -1);
        Check.round(x, 1, 2, 1, 0, 4);
        Check.squares(x, 2, 1, 1, -1, -1);
        Check.lay(x, 0, 9, 9);
        Check.lay(x, 1, 9, 9, 9);
        Check.lay(x, 2, 4, 4, 4);
        CHECK.refuses("BAD, NOTHING", x, () -> x.first(0, 9, 5, 21), BentGrounds.BAD);
        CHECK.refuses("BAD, UNLIKE", x, () -> x.first(2, 2, 0, 1), BentGrounds.BAD);
        CHECK.finds("NOTHING, UNLIKE", x, () -> x.first(2, 9, 0, 20), 1);
        CHECK.finds("NOTHING, UNLIKE, the sheet", x, () -> x.first(2, 0, 5, 20), 1);
        CHECK.finds("UNLIKE, SIZE", x, () -> x.first(0, 2, 0, 20), 3);
        CHECK.finds("UNLIKE, BEYOND", x, () -> x.first(2, 0, 1, 20), 3);
        CHECK.finds("UNLIKE, SPENT", x, () -> x.first(0, 2, 2, 20), 3);
        CHECK.finds("SIZE, BEYOND", x, () -> x.first(0, 1, 0, 20), 5);
        CHECK.finds("BEYOND, SPENT", x, () -> x.first(0, 1, 1, 20), 2);
        CHECK.finds("BEYOND to 0, too", x, () -> x.first(0, 1, 1, 0), 2);
        CHECK.refuses("SPENT last", x, () -> x.first(0, 1, 2, 20), BentGrounds.SPENT);
        CHECK.due("to 0 none is moved", x.first(0, 1, 2, 0), BentGrounds.NONE);
    }

    private static void shortAndFarMotions() {
        for (int size = 0; size <= 16; size++) {
            BentGrounds x = new BentGrounds();
            Check.round(x, 0, 0, 0, 0, -1);
            Check.round(x, 1, 2, 1, 0, 4);
            Check.lay(x, 3, new int[size]);
            for (int i = 3; i < size; i++) {
                x.lay(3, i, Integer.MAX_VALUE);
            }
            if (size < 3) {
                CHECK.finds("a sheet of " + size, x, () -> x.first(0, 1, 3, 2), 5);
            } else {
                CHECK.due("a sheet of " + size, x.first(0, 1, 3, 2), BentGrounds.NONE);
            }
        }
        for (int i = 0; i < 3; i++) {
            for (int v : new int[] {5, -5, 6, 100, Integer.MAX_VALUE, Integer.MIN_VALUE, 4, -4}) {
                BentGrounds x = new BentGrounds();
                Check.round(x, 0, 0, 0, 0, -1);
                Check.round(x, 1, 2, 1, 0, 4);
                x.sheet(3, 3);
                x.lay(3, i, v);
                if (v == 4 || v == -4) {
                    CHECK.due("number " + i + " is " + v, x.first(0, 1, 3, 0), BentGrounds.NONE);
                } else {
                    CHECK.finds("number " + i + " is " + v, x, () -> x.first(0, 1, 3, 0), 2);
                }
            }
        }
    }

    private static int[] someTable(Random chance) {
        while (true) {
            int[] row = new int[10];
            boolean any = false;
            for (int k = 0; k < 10; k++) {
                row[k] = chance.nextInt(k == 9 ? 6 : 3) == 0 ? chance.nextInt(9) - 4 : 0;
                any = any || row[k] != 0;
            }
            if (any) {
                return row;
            }
        }
    }

    private static int valueAt(int[] r, int x, int y, int z) {
        int squares = r[0] * x * x + r[4] * y * y + r[7] * z * z + r[9];
        return squares + 2 * (r[1] * x * y + r[2] * x * z + r[3] * x + r[5] * y * z + r[6] * y + r[8] * z);
    }

    private static List<int[]> placesOf(int n, int[]... tables) {
        List<int[]> places = new ArrayList<>();
        for (int x = -n; x <= n; x++) {
            for (int y = -n; y <= n; y++) {
                for (int z = -n; z <= n; z++) {
                    boolean on = true;
                    for (int[] table : tables) {
                        on = on && valueAt(table, x, y, z) == 0;
                    }
                    if (on) {
                        places.add(new int[] {x, y, z});
                    }
                }
            }
        }
        return places;
    }

    private static void placesAre(BentGrounds x, String what, List<int[]> want) {
        int kept = Math.min(want.size(), 100);
        for (int i = 0; i < kept; i++) {
            for (int k = 0; k < 3; k++) {
                CHECK.tells(what + ": place(" + i + ", " + k + ")", x, x.place(i, k), want.get(i)[k]);
            }
        }
        for (int i : new int[] {kept, kept + 1, 100, -1}) {
            for (int k = 0; k < 3; k++) {
                int which = k;
                CHECK.refuses(what + ": place(" + i + ", " + k + ")", x, () -> x.place(i, which), BentGrounds.NONE);
            }
        }
    }

    private static void sharedOfAll() {
        Random chance = new Random(32);
        int many = 0;
        for (int k = 0; k < 1500; k++) {
            int[] a = someTable(chance);
            int[] b = k % 3 == 0 ? a : someTable(chance);
            int[] c = k % 2 == 0 ? b : someTable(chance);
            int n = chance.nextInt(4) == 0 ? chance.nextInt(11) : chance.nextInt(4);
            BentGrounds x = new BentGrounds();
            Check.ground(x, 2, a);
            Check.ground(x, 3, b);
            Check.ground(x, 11, c);
            String what = k + " to " + n;
            List<int[]> two = placesOf(n, a, b);
            CHECK.due("shared " + what, x.shared(2, 3, n), two.size());
            if (two.size() <= 30) {
                placesAre(x, "shared " + what, two);
            }
            List<int[]> three = placesOf(n, a, b, c);
            BentGrounds y = new BentGrounds();
            Check.ground(y, 2, a);
            Check.ground(y, 3, b);
            Check.ground(y, 11, c);
            CHECK.due("shared3 " + what, y.shared3(11, 2, 3, n), three.size());
            if (three.size() <= 30) {
                placesAre(y, "shared3 " + what, three);
            }
            many += three.size() > 2 ? 1 : 0;
        }
        CHECK.due("places came up", many > 200 ? 1 : 0, 1);
    }

    private static void sharedAtTheEnds() {
        BentGrounds x = new BentGrounds();
        int[] through = {0, 1, 0, 0, 0, 0, 0, 0, 1};
        Check.ground(x, 0, through);
        Check.squares(x, 1, 1, 1, 1, -4);
        Check.squares(x, 2, 1, 0, 0, 0);
        CHECK.due("n 0, on it", x.shared(0, 2, 0), 1);
        CHECK.tells("x", x, x.place(0, 0), 0);
        CHECK.due("n 0, not on it", x.shared(0, 1, 0), 0);
        CHECK.refuses("none now", x, () -> x.place(0, 0), BentGrounds.NONE);
        CHECK.due("three, n 0, on them", x.shared3(0, 2, 2, 0), 1);
        CHECK.tells("z", x, x.place(0, 2), 0);
        CHECK.due("three, n 0, not on the last", x.shared3(0, 2, 1, 0), 0);
        CHECK.due("three, n 0, not on the first", x.shared3(1, 2, 0, 0), 0);
        CHECK.refuses("none now", x, () -> x.place(0, 2), BentGrounds.NONE);
        // x is 10 at the farthest: y y = x, z is 0
        Check.ground(x, 3, 0, 0, 0, -1, 2);
        Check.squares(x, 4, 0, 0, 1, 0);
        for (int n = 0; n <= 10; n++) {
            CHECK.due("y y = x to " + n, x.shared(3, 4, n), n < 1 ? 1 : n < 4 ? 3 : n < 9 ? 5 : 7);
        }
        CHECK.tells("the last: x", x, x.place(6, 0), 9);
        CHECK.tells("the last: y", x, x.place(6, 1), 3);
        CHECK.finds("a missing third one", x, () -> x.shared3(0, 1, 9, 0), 1);
        CHECK.tells("these stay", x, x.place(6, 0), 9);
        CHECK.refuses("n 11", x, () -> x.shared3(0, 1, 2, 11), BentGrounds.BAD);
        CHECK.tells("these stay", x, x.place(6, 1), 3);
    }

    /** The first 100 are kept though more are counted; a later search with less has only its own. */
    private static void hundredPlaces() {
        BentGrounds x = new BentGrounds();
        Check.squares(x, 0, 1, 0, 0, 0);
        List<int[]> all = placesOf(5, new int[] {1, 0, 0, 0, 0, 0, 0, 0, 0, 0});
        CHECK.due("121", x.shared(0, 0, 5), 121);
        for (int i : new int[] {0, 1, 50, 98, 99}) {
            for (int k = 0; k < 3; k++) {
                CHECK.tells("place " + i, x, x.place(i, k), all.get(i)[k]);
            }
        }
        CHECK.refuses("place 100", x, () -> x.place(100, 0), BentGrounds.NONE);
        CHECK.refuses("place 120", x, () -> x.place(120, 0), BentGrounds.NONE);
        CHECK.due("81", x.shared(0, 0, 4), 81);
        CHECK.tells("place 80", x, x.place(80, 2), 4);
        CHECK.refuses("place 81", x, () -> x.place(81, 0), BentGrounds.NONE);
        CHECK.refuses("place 99", x, () -> x.place(99, 0), BentGrounds.NONE);
    }
}
