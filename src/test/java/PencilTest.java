import java.util.function.IntSupplier;

/** Promises 24 to 29: form, formTold, roots, pattern, rational, between. */
public final class PencilTest {
    private static final Check CHECK = new Check("PencilTest");

    private interface Pair {
        int ask(int g, int h);
    }

    public static void main(String[] args) {
        form();
        formTold();
        patternsOfFour();
        patternsWithBeyondAll();
        allAreRootsAndBeyondAllAlone();
        patternsThatAreNotReal();
        patternsOfGreatNumbers();
        rational();
        rationalBelowNought();
        fractionsAtTheEdge();
        between();
        betweenIsSpent();
        CHECK.end();
    }

    private static void refuses(BentGrounds x, String what, IntSupplier call) {
        CHECK.refuses(what, x, call, BentGrounds.BAD);
    }

    /** What every call with two grounds refuses; ground 0 must be there and 9 missing. */
    private static void refusesPairs(BentGrounds x, String name, Pair call) {
        refuses(x, name + "(12, 0)", () -> call.ask(12, 0));
        refuses(x, name + "(0, 12)", () -> call.ask(0, 12));
        refuses(x, name + "(-1, 9): BAD is ahead", () -> call.ask(-1, 9));
        refuses(x, name + "(9, -1): BAD is ahead", () -> call.ask(9, -1));
        CHECK.finds(name + "(9, 0)", x, () -> call.ask(9, 0), 1);
        CHECK.finds(name + "(0, 9)", x, () -> call.ask(0, 9), 1);
    }

    private static void formIs(BentGrounds x, int... want) {
        for (int i = 0; i < 5; i++) {
            CHECK.tells("formTold(" + i + ")", x, x.formTold(i), want[i]);
        }
    }

    private static void form() {
        BentGrounds x = new BentGrounds();
        Check.squares(x, 0, 1, 1, 1, 1);
        Check.squares(x, 1, 1, 2, 3, 4);
        CHECK.due("(t + 1)(t + 2)(t + 3)(t + 4)", x.form(0, 1), 5);
        formIs(x, 1, 10, 35, 50, 24);
        CHECK.due("the other way", x.form(1, 0), 5);
        formIs(x, 24, 50, 35, 10, 1);
        Check.ground(x, 2, 0, 1, 0, 0, 0, 0, 0, 0, 2, 0);
        CHECK.due("(t t - 1)(t t - 4)", x.form(0, 2), 3);
        formIs(x, 1, 0, -5, 0, 4);
        Check.squares(x, 3, 1, 0, 0, 0);
        CHECK.due("t t t (t + 1)", x.form(0, 3), 2);
        formIs(x, 1, 1, 0, 0, 0);
        CHECK.due("one with itself, flat", x.form(3, 3), 0);
        formIs(x, 0, 0, 0, 0, 0);
        refusesPairs(x, "form", (g, h) -> x.form(g, h));
        formIs(x, 0, 0, 0, 0, 0);
    }

    private static void formTold() {
        BentGrounds x = new BentGrounds();
        CHECK.refuses("none was", x, () -> x.formTold(4), BentGrounds.STATE);
        refuses(x, "BAD is ahead", () -> x.formTold(5));
        refuses(x, "i -1", () -> x.formTold(-1));
        Check.squares(x, 0, 1, 1, 1, 1);
        Check.squares(x, 1, 1, 2, 3, 4);
        x.pattern(0, 1);
        x.roots(0, 1);
        x.rational(0, 1, 0);
        x.between(0, 1, 3);
        CHECK.refuses("none was laid by other calls", x, () -> x.formTold(0), BentGrounds.STATE);
        x.form(0, 1);
        CHECK.finds("a refused form", x, () -> x.form(0, 9), 1);
        x.pattern(1, 0);
        CHECK.tells("the latest form stays", x, x.formTold(4), 24);
        x.drop(0);
        CHECK.tells("also without its ground", x, x.formTold(1), 10);
        refuses(x, "i 5", () -> x.formTold(5));
    }

    /** Roots -m of the first ground's ones and the second one's squares, in all the orders. */
    private static void patternsOfFour() {
        int[][] rows = {
            {1, 2, 3, 4, 1111, 4}, {1, 1, 2, 3, 112, 3}, {1, 2, 2, 3, 121, 3}, {1, 2, 3, 3, 211, 3},
            {1, 1, 2, 2, 22, 2}, {1, 1, 1, 2, 13, 2}, {1, 2, 2, 2, 31, 2}, {2, 2, 2, 2, 4, 1},
            {-3, -2, -1, 0, 1111, 4}, {-2, -2, 0, 1, 112, 3}, {0, 0, -1, 1, 121, 3}, {3, 3, -4, 1, 211, 3},
            {4, -4, 4, -4, 22, 2}, {0, 0, 0, -1, 31, 2}, {0, 0, 0, 1, 13, 2},
        };
        for (int turned = 0; turned < 2; turned++) {
            BentGrounds x = new BentGrounds();
            Check.squares(x, 0, 1, turned == 0 ? 1 : -1, 1, 1);
            for (int[] r : rows) {
                Check.squares(x, 1, r[0], turned == 0 ? r[1] : -r[1], r[2], r[3]);
                CHECK.due("pattern of " + r[0] + " " + r[1] + " " + r[2] + " " + r[3], x.pattern(0, 1), r[4]);
                CHECK.due("roots of " + r[0] + " " + r[1] + " " + r[2] + " " + r[3], x.roots(0, 1), r[5]);
            }
        }
    }

    /** As many 0s in the first ground as often t beyond all counts. */
    private static void patternsWithBeyondAll() {
        BentGrounds x = new BentGrounds();
        int[][] rows = {
            {0, 1, 1, 1, 1, 1, 2, 3, 1111, 4}, {0, 1, 1, 1, 1, 1, 1, 2, 121, 3}, {0, 1, 1, 1, 1, 1, 2, 2, 211, 3},
            {0, 1, 1, 1, 1, 2, 2, 2, 31, 2}, {0, 0, 1, 1, 1, 1, 1, 2, 112, 3}, {0, 0, 1, 1, 1, 1, 2, 2, 22, 2},
            {0, 0, 0, 1, 1, 1, 1, 2, 13, 2}, {0, 0, 0, 1, 1, 1, 1, 0, 13, 2}, {0, -1, 1, 1, -1, 1, 1, 2, 1111, 4},
            {0, -1, 1, 1, -1, -2, 1, 1, 121, 3}, {0, -1, 1, 1, 1, -2, 2, 1, 211, 3},
        };
        for (int[] r : rows) {
            Check.squares(x, 0, r[0], r[1], r[2], r[3]);
            Check.squares(x, 1, r[4], r[5], r[6], r[7]);
            String name = r[0] + " " + r[1] + " " + r[2] + " " + r[3] + " and " + r[4] + " " + r[5] + " " + r[6] + " " + r[7];
            CHECK.due("pattern of " + name, x.pattern(0, 1), r[8]);
            CHECK.due("roots of " + name, x.roots(0, 1), r[9]);
        }
    }

    private static void allAreRootsAndBeyondAllAlone() {
        BentGrounds x = new BentGrounds();
        Check.ground(x, 0, 0, 1);
        Check.ground(x, 1, 0, 0, 0, 0, 0, 0, 0, 0, 1);
        CHECK.due("two planes each: t t", x.pattern(0, 1), 22);
        Check.ground(x, 2, 0, 0, 0, 1, 0, 1, 0, 0, 0, 0);
        Check.ground(x, 3, 1, 0, 0, 0, 0, 0, 0, 0, 0, 0);
        CHECK.due("a number that stays: beyond all four times", x.pattern(3, 2), 4);
        CHECK.due("beyond all is real", x.roots(3, 2), 1);
        CHECK.due("all are roots", x.pattern(3, 0), 0);
        CHECK.due("all are roots: 9", x.roots(3, 0), 9);
        refusesPairs(x, "pattern", (g, h) -> x.pattern(g, h));
        refusesPairs(x, "roots", (g, h) -> x.roots(g, h));
    }

    /** Blocks t, 1, 1, -t and the like have t t + 1 as a part. */
    private static void patternsThatAreNotReal() {
        BentGrounds x = new BentGrounds();
        Check.squares(x, 0, 1, -1, 1, -1);
        Check.ground(x, 1, 0, 1, 0, 0, 0, 0, 0, 0, 1, 0);
        CHECK.due("(t t + 1) twice", x.pattern(0, 1), 6);
        CHECK.due("no real root", x.roots(0, 1), 0);
        Check.ground(x, 1, 0, 1, 0, 0, 0, 0, 0, 0, 2, 0);
        CHECK.due("(t t + 1)(t t + 4)", x.pattern(0, 1), 55);
        CHECK.due("no real root", x.roots(0, 1), 0);
        Check.ground(x, 1, 0, 1, 0, 0, 0, 0, 0, 1, 0, 2);
        CHECK.due("(t t + 1)(t + 1)(t - 2)", x.pattern(0, 1), 115);
        CHECK.due("two real roots", x.roots(0, 1), 2);
        Check.ground(x, 1, 0, 1, 0, 0, 0, 0, 0, 2, 0, -2);
        CHECK.due("(t t + 1)(t + 2)(t + 2)", x.pattern(0, 1), 25);
        CHECK.due("one real root", x.roots(0, 1), 1);
        Check.squares(x, 0, 1, -1, 1, 0);
        Check.ground(x, 1, 0, 1, 0, 0, 0, 0, 0, 2, 0, 1);
        CHECK.due("(t t + 1)(t + 2), beyond all", x.pattern(0, 1), 115);
        Check.squares(x, 0, 1, -1, 0, 0);
        CHECK.due("(t t + 1), beyond all twice", x.pattern(0, 1), 25);
        CHECK.due("one real root", x.roots(0, 1), 1);
        Check.squares(x, 0, 1, 1, 1, 1);
        Check.ground(x, 1, 0, 1, 0, 0, 0, 0, 0, 0, 1, 0);
        CHECK.due("(t t - 1) twice", x.pattern(0, 1), 22);
        Check.ground(x, 1, 1, 1, 0, 0, -1, 0, 0, 1, 1, -1);
        CHECK.due("(t t - 2) twice", x.pattern(0, 1), 22);
        CHECK.due("no fraction", x.rational(0, 1, 0), BentGrounds.NONE);
    }

    /** Numbers of a FORM so great that 4 I I I goes beyond a long. */
    private static void patternsOfGreatNumbers() {
        BentGrounds x = new BentGrounds();
        Check.ground(x, 0, 4, 4, 4, 4, 4, -4, -4, -4, 4, -4);
        Check.ground(x, 1, 4, 4, 4, 4, -4, 4, -4, -4, -4, 4);
        // the second one has the rows of the first one, three of them gone round: (t + 1)(t t t + 1)
        CHECK.due("form", x.form(0, 1), 4);
        formIs(x, 4096, 4096, 0, 4096, 4096);
        CHECK.due("-1 twice and two that are not real", x.pattern(0, 1), 25);
        CHECK.fraction("-1", x, x.rational(0, 1, 0), 2, -1, 1);
        CHECK.due("no more fractions", x.rational(0, 1, 1), BentGrounds.NONE);
        CHECK.due("itself", x.pattern(0, 0), 4);
    }

    private static void rational() {
        BentGrounds x = new BentGrounds();
        Check.squares(x, 0, 2, 3, 4, 1);
        Check.squares(x, 1, 1, -2, 1, 0);
        CHECK.fraction("-1 by 2", x, x.rational(0, 1, 0), 1, -1, 2);
        CHECK.fraction("-1 by 4", x, x.rational(0, 1, 1), 1, -1, 4);
        CHECK.fraction("0 by 1", x, x.rational(0, 1, 2), 1, 0, 1);
        CHECK.fraction("2 by 3", x, x.rational(0, 1, 3), 1, 2, 3);
        CHECK.refuses("no fifth", x, () -> x.rational(0, 1, 4), BentGrounds.NONE);
        CHECK.refuses("none at the greatest", x, () -> x.rational(0, 1, Integer.MAX_VALUE), BentGrounds.NONE);
        Check.squares(x, 1, 2, 3, -4, 1);
        CHECK.fraction("-1 three times", x, x.rational(0, 1, 0), 3, -1, 1);
        CHECK.fraction("1 once", x, x.rational(0, 1, 1), 1, 1, 1);
        Check.squares(x, 2, 0, 0, 2, 1);
        CHECK.fraction("beyond all is no fraction", x, x.rational(2, 1, 0), 1, -1, 1);
        CHECK.fraction("2", x, x.rational(2, 1, 1), 1, 2, 1);
        CHECK.refuses("no third", x, () -> x.rational(2, 1, 2), BentGrounds.NONE);
        Check.ground(x, 3, 1, 1, 0, 0, -1, 0, 0, 0, 0, 0);
        Check.squares(x, 4, 0, 0, 1, 1);
        CHECK.refuses("none in the range", x, () -> x.rational(4, 3, 1), BentGrounds.NONE);
        CHECK.fraction("0 twice", x, x.rational(4, 3, 0), 2, 0, 1);
        Check.squares(x, 5, 1, 0, 0, 0);
        CHECK.refuses("all are roots", x, () -> x.rational(5, 5, 0), BentGrounds.STATE);
        refusesPairs(x, "rational", (g, h) -> x.rational(g, h, 0));
    }

    /** No limit of i is told, so one below 0 names no root: NONE, behind all that is refused. */
    private static void rationalBelowNought() {
        BentGrounds x = new BentGrounds();
        CHECK.finds("i -1, both missing", x, () -> x.rational(0, 0, -1), 1);
        Check.squares(x, 0, 2, 3, 4, 1);
        Check.squares(x, 1, 1, -2, 1, 0);
        Check.squares(x, 2, 1, 0, 0, 0);
        CHECK.fraction("-1 by 4", x, x.rational(0, 1, 1), 1, -1, 4);
        for (int i : new int[] {-1, -2, Integer.MIN_VALUE}) {
            CHECK.refuses("i " + i, x, () -> x.rational(0, 1, i), BentGrounds.NONE);
            CHECK.refuses("all are roots, i " + i, x, () -> x.rational(2, 2, i), BentGrounds.STATE);
            refusesPairs(x, "rational, i " + i, (g, h) -> x.rational(g, h, i));
        }
    }

    /** Roots whose numbers are as great as 64, and greater. */
    private static void fractionsAtTheEdge() {
        BentGrounds x = new BentGrounds();
        Check.squares(x, 0, 1, 0, 0, 0);
        Check.ground(x, 1, -4, -4, -3, 0, -4, 1, 0, -4, 0, 1);
        CHECK.fraction("t t t (64 t + 15): -15 by 64", x, x.rational(1, 0, 0), 1, -15, 64);
        CHECK.fraction("t t t (64 t + 15): 0", x, x.rational(1, 0, 1), 3, 0, 1);
        CHECK.due("t t t (64 t + 15): no more", x.rational(1, 0, 2), BentGrounds.NONE);
        CHECK.fraction("15 t + 64: -64 by 15", x, x.rational(0, 1, 0), 1, -64, 15);
        x.turn(0);
        CHECK.fraction("t t t (64 t - 15): 15 by 64", x, x.rational(1, 0, 1), 1, 15, 64);
        CHECK.fraction("64 - 15 t: 64 by 15", x, x.rational(0, 1, 0), 1, 64, 15);
        Check.ground(x, 2, -4, -4, -3, 0, 3, 2, 0, -1, 0, 1);
        CHECK.fraction("t t t (65 t + 7): 0 alone", x, x.rational(2, 0, 0), 3, 0, 1);
        CHECK.due("t t t (65 t + 7): no more", x.rational(2, 0, 1), BentGrounds.NONE);
        CHECK.due("7 t + 65: none", x.rational(0, 2, 0), BentGrounds.NONE);
    }

    private static void spent(BentGrounds x, String what, int answer, int told) {
        CHECK.due(what, answer, BentGrounds.SPENT);
        CHECK.due(what + ": asked()", x.asked(), told);
    }

    private static void shown(BentGrounds x, String what, int answer, int told) {
        CHECK.due(what, answer, told);
        CHECK.due(what + ": asked()", x.asked(), told);
    }

    private static void between() {
        BentGrounds x = new BentGrounds();
        Check.squares(x, 0, 1, 1, 1, 1);
        Check.squares(x, 1, 1, 2, 3, 4);
        spent(x, "-1 .. 1 for roots -1 .. -4", x.between(0, 1, 1), 4);
        // 4 by 1 is the tree's end, and 7 by 2 comes in the fifth step
        spent(x, "-4 .. 4 for roots -1 .. -4", x.between(0, 1, 4), 234);
        for (int n = 5; n <= 8; n++) {
            shown(x, "n " + n + " for roots -1 .. -4", x.between(0, 1, n), 1234);
        }
        // 2 by 5 comes in the fourth step, 2 by 7 in the fifth
        spent(x, "n 3 for roots -1 .. -1 by 4", x.between(1, 0, 3), 14);
        spent(x, "n 4 for roots -1 .. -1 by 4", x.between(1, 0, 4), 124);
        shown(x, "n 5 for roots -1 .. -1 by 4", x.between(1, 0, 5), 1234);
        Check.squares(x, 2, -1, -1, -1, -1);
        shown(x, "with signs turned", x.between(2, 1, 5), 43210);
        Check.ground(x, 3, 0, 1, 0, 0, 0, 0, 0, 0, 2, 0);
        shown(x, "roots -2, -1, 1, 2", x.between(0, 3, 3), 1234);
        spent(x, "roots at the tree's ends", x.between(0, 3, 2), 2);
        Check.squares(x, 4, 1, -1, 1, -1);
        shown(x, "no real root", x.between(4, 3, 1), 2);
        Check.squares(x, 5, 0, 0, 0, 1);
        Check.squares(x, 6, 1, 1, 1, 0);
        shown(x, "beyond all thrice", x.between(5, 6, 1), 34);
        refuses(x, "n 0", () -> x.between(0, 1, 0));
        refuses(x, "n 9", () -> x.between(0, 1, 9));
        refuses(x, "n -1", () -> x.between(0, 1, -1));
        refuses(x, "n 9, missing: BAD is ahead", () -> x.between(0, 9, 9));
        refusesPairs(x, "between", (g, h) -> x.between(g, h, 1));
    }

    private static void betweenIsSpent() {
        BentGrounds x = new BentGrounds();
        Check.squares(x, 0, 1, 1, 1, 1);
        Check.squares(x, 1, 1, 1, 0, 2);
        spent(x, "one counts twice", x.between(0, 1, 4), 134);
        Check.squares(x, 1, 1, 1, 1, 0);
        spent(x, "one counts thrice", x.between(0, 1, 4), 34);
        Check.squares(x, 2, 1, -1, 1, 1);
        Check.squares(x, 3, 0, 0, 1, 2);
        spent(x, "like ones around a root are one figure", x.between(2, 3, 4), 123);
        Check.squares(x, 4, 1, -1, 1, -1);
        Check.squares(x, 5, 0, 0, 0, 1);
        spent(x, "figures that come again", x.between(4, 5, 3), 232);
        Check.squares(x, 6, 1, 0, 0, 0);
        spent(x, "all are roots", x.between(6, 6, 2), 0);
        Check.squares(x, 7, 3, 4, 1, 1);
        Check.squares(x, 8, -1, -1, 1, 2);
        spent(x, "two roots between neighbours", x.between(7, 8, 1), 24);
        spent(x, "two roots between neighbours still", x.between(7, 8, 4), 124);
        shown(x, "two roots parted", x.between(7, 8, 5), 1234);
    }
}
