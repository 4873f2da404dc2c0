import java.util.function.IntSupplier;

/** Promises 30 to 34: apart, first, shared, place, shared3. */
public final class BallsTest {
    private static final Check CHECK = new Check("BallsTest");

    public static void main(String[] args) {
        apartOfRoundOnes();
        apartOfOthers();
        apartRefused();
        first();
        firstTurned();
        firstSpent();
        firstRefused();
        shared();
        sharedRefused();
        place();
        shared3();
        CHECK.end();
    }

    private static void refuses(BentGrounds x, String what, IntSupplier call) {
        CHECK.refuses(what, x, call, BentGrounds.BAD);
    }

    private static void both(BentGrounds x, String what, int g, int h, int want) {
        CHECK.due(what, x.apart(g, h), want);
        CHECK.due(what + ", the other way", x.apart(h, g), want);
    }

    private static void apartOfRoundOnes() {
        BentGrounds x = new BentGrounds();
        Check.round(x, 0, 0, 0, 0, -1);
        Check.round(x, 1, 2, 1, 0, 4);
        both(x, "middles farther off than 2", 0, 1, 2);
        Check.round(x, 2, 0, -2, 0, 3);
        both(x, "middles 2 off", 0, 2, 1);
        Check.round(x, 3, 1, 1, 1, 2);
        both(x, "middles nearer than 2", 0, 3, 0);
        Check.round(x, 4, 0, 0, 0, -4);
        both(x, "one within the other, one middle", 0, 4, 0);
        Check.round(x, 5, 1, 0, 0, 0);
        both(x, "one within the other, touching from inside", 4, 5, 0);
        Check.round(x, 6, 0, 0, 0, -1);
        both(x, "two that are one", 0, 6, 0);
        x.turn(0);
        both(x, "one turned: apart", 0, 1, 2);
        both(x, "one turned: touching", 0, 2, 1);
        both(x, "one turned: sharing", 0, 3, 0);
        x.turn(1);
        both(x, "both turned: apart", 0, 1, 2);
    }

    private static void apartOfOthers() {
        BentGrounds x = new BentGrounds();
        Check.squares(x, 0, 4, 1, 1, -4);
        Check.ground(x, 1, 1, 0, 0, -2, 1, 0, 0, 1, 0, 3);
        both(x, "narrow one from -1 to 1 and one from 1 on", 0, 1, 1);
        Check.squares(x, 0, 1, 4, 4, -4);
        both(x, "long one from -2 to 2 and one from 1 on", 0, 1, 0);
        Check.squares(x, 0, 4, 1, 1, -1);
        both(x, "narrow one up to a half", 0, 1, 2);
    }

    private static void apartRefused() {
        BentGrounds x = new BentGrounds();
        Check.round(x, 0, 0, 0, 0, -1);
        Check.squares(x, 1, 1, 1, -1, -1);
        Check.squares(x, 2, -1, 1, 1, 1);
        refuses(x, "the same one", () -> x.apart(0, 0));
        refuses(x, "the same missing one", () -> x.apart(9, 9));
        refuses(x, "ground 12", () -> x.apart(0, 12));
        refuses(x, "ground -1", () -> x.apart(-1, 0));
        CHECK.finds("missing", x, () -> x.apart(0, 9), 1);
        CHECK.finds("missing and unlike: NOTHING is ahead", x, () -> x.apart(1, 9), 1);
        CHECK.finds("ruled", x, () -> x.apart(0, 1), 3);
        CHECK.finds("two sheets", x, () -> x.apart(2, 0), 3);
    }

    private static void first() {
        BentGrounds x = new BentGrounds();
        Check.round(x, 0, 0, 0, 0, -1);
        Check.round(x, 1, 2, 1, 0, 4);
        Check.lay(x, 0, -1, 0, 0);
        CHECK.due("to (1, 1, 0)", x.first(0, 1, 0, 2), 1);
        CHECK.due("none at 0", x.first(0, 1, 0, 0), BentGrounds.NONE);
        Check.lay(x, 0, 0, -1, 0, 99);
        CHECK.due("touching at 1", x.first(0, 1, 0, 3), 1);
        Check.lay(x, 0, -4, 0, 0);
        CHECK.due("past it between 0 and 1", x.first(0, 1, 0, 1), BentGrounds.NONE);
        Check.lay(x, 0, 1, 0, 0);
        CHECK.due("away", x.first(0, 1, 0, 3), BentGrounds.NONE);
        Check.lay(x, 0, 0, 0, 0);
        CHECK.due("not moved at all", x.first(0, 1, 0, 20), BentGrounds.NONE);
        Check.round(x, 2, 0, 1, 1, 1);
        Check.lay(x, 0, 0, 0, 1);
        CHECK.due("at 0 already", x.first(0, 2, 0, 4), 0);
        // the moved one is the second: the first one moved as much would come nearer
        Check.lay(x, 0, 1, 1, 0);
        CHECK.due("the second is moved", x.first(0, 1, 0, 2), BentGrounds.NONE);
        CHECK.due("the second is moved, the other way", x.first(1, 0, 0, 2), 1);
    }

    private static void firstTurned() {
        BentGrounds x = new BentGrounds();
        Check.round(x, 0, 0, 0, 0, -1);
        Check.round(x, 1, 2, 1, 0, 4);
        Check.lay(x, 0, -1, 0, 0);
        x.turn(1);
        CHECK.due("the moved one turned", x.first(0, 1, 0, 2), 1);
        x.turn(0);
        CHECK.due("both turned", x.first(0, 1, 0, 2), 1);
        Check.ground(x, 2, 1, 1, 0, -2, 2, 0, -4, 1, 0, 4);
        CHECK.due("a slanting one", x.first(0, 2, 0, 0) == BentGrounds.FINDING ? 0 : 1, 1);
    }

    private static void firstSpent() {
        BentGrounds x = new BentGrounds();
        Check.round(x, 0, 0, 0, 0, -1);
        Check.round(x, 1, 2, 1, 0, 4);
        Check.lay(x, 0, 1, 0, 0);
        CHECK.refuses("36 at 4", x, () -> x.first(0, 1, 0, 4), BentGrounds.SPENT);
        Check.round(x, 2, 0, 0, 0, 0 - 1);
        CHECK.refuses("beyond though 0 is found", x, () -> x.first(0, 2, 0, 6), BentGrounds.SPENT);
        CHECK.due("24 at 5", x.first(0, 2, 0, 5), 0);
        Check.squares(x, 3, 4, 4, 4, -4);
        Check.lay(x, 0, 0, 4, 0);
        CHECK.refuses("60 at 1", x, () -> x.first(0, 3, 0, 1), BentGrounds.SPENT);
        x.turn(3);
        CHECK.refuses("-60 at 1", x, () -> x.first(0, 3, 0, 1), BentGrounds.SPENT);
        Check.squares(x, 4, 1, 1, 1, -1);
        Check.lay(x, 0, 1, 1, 0);
        CHECK.due("17 at 3", x.first(0, 4, 0, 3), 0);
        CHECK.refuses("31 at 4", x, () -> x.first(0, 4, 0, 4), BentGrounds.SPENT);
        Check.squares(x, 5, 1, 1, 1, -2);
        CHECK.due("30 at 4", x.first(0, 5, 0, 4), 0);
    }

    private static void firstRefused() {
        BentGrounds x = new BentGrounds();
        Check.round(x, 0, 0, 0, 0, -1);
        Check.round(x, 1, 2, 1, 0, 4);
        Check.squares(x, 2, 1, 1, -1, -1);
        Check.lay(x, 0, 1, 0, 0);
        Check.lay(x, 1, 9, 9);
        Check.lay(x, 2, 0, 0, 5);
        refuses(x, "the same one", () -> x.first(1, 1, 0, 1));
        refuses(x, "ground 12", () -> x.first(12, 1, 0, 1));
        refuses(x, "ground -1", () -> x.first(0, -1, 0, 1));
        refuses(x, "sheet 8", () -> x.first(0, 1, 8, 1));
        refuses(x, "sheet -1", () -> x.first(0, 1, -1, 1));
        refuses(x, "n 21", () -> x.first(0, 1, 0, 21));
        refuses(x, "n -1", () -> x.first(0, 1, 0, -1));
        refuses(x, "n -1, missing: BAD is ahead", () -> x.first(0, 9, 0, -1));
        CHECK.finds("first ground missing", x, () -> x.first(9, 1, 0, 1), 1);
        CHECK.finds("second ground missing", x, () -> x.first(0, 9, 0, 1), 1);
        CHECK.finds("sheet missing, unlike", x, () -> x.first(0, 2, 5, 1), 1);
        CHECK.finds("unlike, too short", x, () -> x.first(0, 2, 1, 1), 3);
        CHECK.finds("unlike, the first", x, () -> x.first(2, 0, 0, 1), 3);
        CHECK.finds("too short, beyond", x, () -> x.first(0, 1, 1, 1), 5);
        CHECK.finds("beyond, spent", x, () -> x.first(0, 1, 2, 20), 2);
        Check.lay(x, 2, -5, 0, 0);
        CHECK.finds("beyond below", x, () -> x.first(0, 1, 2, 1), 2);
        Check.lay(x, 2, 4, -4, 4);
        CHECK.refuses("4 is not beyond", x, () -> x.first(0, 1, 2, 20), BentGrounds.SPENT);
    }

    private static void placesAre(BentGrounds x, String what, int... want) {
        for (int i = 0; i < want.length; i++) {
            CHECK.tells(what + ": place(" + i / 3 + ", " + i % 3 + ")", x, x.place(i / 3, i % 3), want[i]);
        }
        CHECK.refuses(what + ": no more", x, () -> x.place(want.length / 3, 0), BentGrounds.NONE);
    }

    private static void shared() {
        BentGrounds x = new BentGrounds();
        Check.squares(x, 0, 1, 1, 1, -1);
        Check.squares(x, 1, 1, 1, -1, -1);
        CHECK.due("a ring of four", x.shared(0, 1, 3), 4);
        placesAre(x, "a ring of four", -1, 0, 0, 0, -1, 0, 0, 1, 0, 1, 0, 0);
        CHECK.due("one with itself", x.shared(0, 0, 1), 6);
        placesAre(x, "six", -1, 0, 0, 0, -1, 0, 0, 0, -1, 0, 0, 1, 0, 1, 0, 1, 0, 0);
        CHECK.due("n 0", x.shared(0, 1, 0), 0);
        placesAre(x, "none");
        Check.squares(x, 2, 1, 1, 1, 0);
        Check.squares(x, 3, 0, 0, 1, 0);
        CHECK.due("n 0, the middle", x.shared(2, 3, 0), 1);
        placesAre(x, "the middle", 0, 0, 0);
        Check.ground(x, 4, 1, 2, -1, 3, 4, -2, 1, -3, 2, -4);
        Check.ground(x, 5, 1, 2, -1, 3, 4, -2, 1, -3, 2, -4);
        CHECK.due("all numbers at work", x.shared(4, 5, 10), ownCount(x, 4, 10));
    }

    /** Counted by value() alone. */
    private static int ownCount(BentGrounds x, int g, int n) {
        int[][] t = new int[4][4];
        for (int i = 0; i < 16; i++) {
            x.table(g, i / 4, i % 4);
            t[i / 4][i % 4] = x.asked();
        }
        int count = 0;
        for (int a = -n; a <= n; a++) {
            for (int b = -n; b <= n; b++) {
                for (int c = -n; c <= n; c++) {
                    int[] u = {a, b, c, 1};
                    int sum = 0;
                    for (int i = 0; i < 16; i++) {
                        sum += t[i / 4][i % 4] * u[i / 4] * u[i % 4];
                    }
                    count += sum == 0 ? 1 : 0;
                }
            }
        }
        return count;
    }

    private static void sharedRefused() {
        BentGrounds x = new BentGrounds();
        Check.squares(x, 0, 1, 1, 1, -1);
        x.shared(0, 0, 1);
        refuses(x, "n 11", () -> x.shared(0, 0, 11));
        refuses(x, "n -1", () -> x.shared(0, 0, -1));
        refuses(x, "ground 12", () -> x.shared(12, 0, 1));
        refuses(x, "ground -1", () -> x.shared(0, -1, 1));
        refuses(x, "n 11, missing: BAD is ahead", () -> x.shared(0, 9, 11));
        CHECK.finds("first missing", x, () -> x.shared(9, 0, 1), 1);
        CHECK.finds("second missing", x, () -> x.shared(0, 9, 1), 1);
        CHECK.tells("the latest places stay", x, x.place(5, 0), 1);
    }

    private static void place() {
        BentGrounds x = new BentGrounds();
        CHECK.refuses("before any", x, () -> x.place(0, 0), BentGrounds.NONE);
        refuses(x, "k 3 before any", () -> x.place(0, 3));
        Check.squares(x, 0, 0, 0, 1, 0);
        CHECK.due("441 places", x.shared(0, 0, 10), 441);
        CHECK.tells("place 0, x", x, x.place(0, 0), -10);
        CHECK.tells("place 99, x", x, x.place(99, 0), -6);
        CHECK.tells("place 99, y", x, x.place(99, 1), 5);
        CHECK.tells("place 99, z", x, x.place(99, 2), 0);
        CHECK.refuses("only 100 are kept", x, () -> x.place(100, 0), BentGrounds.NONE);
        CHECK.refuses("place -1", x, () -> x.place(-1, 0), BentGrounds.NONE);
        CHECK.refuses("the greatest place", x, () -> x.place(Integer.MAX_VALUE, 2), BentGrounds.NONE);
        CHECK.refuses("the least place", x, () -> x.place(Integer.MIN_VALUE, 2), BentGrounds.NONE);
        refuses(x, "k 3", () -> x.place(0, 3));
        refuses(x, "k -1", () -> x.place(0, -1));
        refuses(x, "k -1, no such place: BAD is ahead", () -> x.place(100, -1));
        x.drop(0);
        CHECK.tells("kept without the ground", x, x.place(21, 0), -9);
    }

    private static void shared3() {
        BentGrounds x = new BentGrounds();
        Check.squares(x, 0, 1, 1, 1, -1);
        Check.squares(x, 1, 1, 1, -1, -1);
        Check.ground(x, 2, 0, 0, 0, 1, 0, 0, 1, 0, 0, 2);
        Check.ground(x, 2, 1, 0, 0, 1, 0, 0, 0, 0, 0, 0);
        CHECK.due("x (x + 2) is 0 too", x.shared3(0, 1, 2, 5), 2);
        placesAre(x, "two", 0, -1, 0, 0, 1, 0);
        CHECK.due("as the first", x.shared3(2, 0, 1, 5), 2);
        CHECK.due("as the second", x.shared3(0, 2, 1, 5), 2);
        CHECK.due("one three times", x.shared3(0, 0, 0, 10), 6);
        refuses(x, "n 11", () -> x.shared3(0, 1, 2, 11));
        refuses(x, "n -1", () -> x.shared3(0, 1, 2, -1));
        refuses(x, "first 12", () -> x.shared3(12, 1, 2, 1));
        refuses(x, "second -1", () -> x.shared3(0, -1, 2, 1));
        refuses(x, "third 12", () -> x.shared3(0, 1, 12, 1));
        refuses(x, "third 12, missing: BAD is ahead", () -> x.shared3(9, 1, 12, 1));
        CHECK.finds("first missing", x, () -> x.shared3(9, 1, 2, 1), 1);
        CHECK.finds("second missing", x, () -> x.shared3(0, 9, 2, 1), 1);
        CHECK.finds("third missing", x, () -> x.shared3(0, 1, 9, 1), 1);
        CHECK.tells("the latest places stay", x, x.place(5, 0), 1);
    }
}
