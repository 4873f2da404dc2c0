import java.util.function.IntSupplier;

/** Promises 16 to 23: value, tangent, line, lineTold, cut, touches, lines, middle. */
public final class PlacesTest {
    private static final Check CHECK = new Check("PlacesTest");

    private interface AtPlace {
        int ask(int g, int s);
    }

    public static void main(String[] args) {
        value();
        tangent();
        line();
        lineRefused();
        lineTold();
        cut();
        touches();
        lines();
        middle();
        CHECK.end();
    }

    /** What every call with one place (or plane) refuses; ground 0 must be there. */
    private static void refusesPlaces(BentGrounds x, String name, AtPlace call) {
        Check.lay(x, 0, 1, 0, 0, 1);
        x.tear(6);
        refuses(x, name + ": ground 12", () -> call.ask(12, 0));
        refuses(x, name + ": ground -1", () -> call.ask(-1, 0));
        refuses(x, name + ": sheet 8", () -> call.ask(0, 8));
        refuses(x, name + ": sheet -1, ground missing", () -> call.ask(11, -1));
        CHECK.finds(name + ": ground missing", x, () -> call.ask(11, 0), 1);
        CHECK.finds(name + ": sheet missing", x, () -> call.ask(0, 6), 1);
        Check.lay(x, 0, 101, 0, 0);
        CHECK.finds(name + ": too short", x, () -> call.ask(0, 0), 5);
        Check.lay(x, 0, 0, 0, 0, 101);
        CHECK.finds(name + ": 101", x, () -> call.ask(0, 0), 2);
        Check.lay(x, 0, -101, 0, 0, 0);
        CHECK.finds(name + ": -101", x, () -> call.ask(0, 0), 2);
        Check.lay(x, 0, 0, 0, 0, 0, 7);
        CHECK.finds(name + ": all four 0", x, () -> call.ask(0, 0), 4);
    }

    private static void refuses(BentGrounds x, String what, IntSupplier call) {
        CHECK.refuses(what, x, call, BentGrounds.BAD);
    }

    private static void value() {
        BentGrounds x = new BentGrounds();
        Check.ground(x, 0, 1, 2, -1, 3, 4, -2, 1, -3, 2, -4);
        Check.lay(x, 0, 1, 2, 3, 4);
        // 1 + 16 - 27 - 64 and twice 4 - 3 + 12 - 12 + 8 + 24
        CHECK.tells("value at (1, 2, 3, 4)", x, x.value(0, 0), -8);
        Check.lay(x, 0, 0, 1, 0, 0, 500);
        CHECK.tells("only four count", x, x.value(0, 0), 4);
        Check.ground(x, 0, 4, 4, 4, 4, 4, 4, 4, 4, 4, 4);
        Check.lay(x, 0, 100, 100, 100, 100);
        CHECK.tells("the greatest", x, x.value(0, 0), 640000);
        Check.lay(x, 0, -100, 100, 0, 0);
        CHECK.tells("on it", x, x.value(0, 0), 0);
        refusesPlaces(x, "value", (g, s) -> x.value(g, s));
    }

    private static void sheetIs(BentGrounds x, int s, int... want) {
        for (int i = 0; i < want.length; i++) {
            CHECK.tells("sheet " + s + " place " + i, x, x.lay(s, i, want[i]), want[i]);
        }
        CHECK.finds("sheet " + s + " ends", x, () -> x.lay(s, want.length, 0), 2);
    }

    private static void tangent() {
        BentGrounds x = new BentGrounds();
        Check.ground(x, 0, 1, 2, -1, 3, 4, -2, 1, -3, 2, -4);
        Check.lay(x, 0, 1, 2, 3, 4, 5, 6);
        CHECK.due("to a missing sheet", x.tangent(0, 0, 5), 1);
        sheetIs(x, 5, 14, 8, -6, -5);
        CHECK.due("to itself", x.tangent(0, 0, 0), 1);
        sheetIs(x, 0, 14, 8, -6, -5);
        Check.squares(x, 1, 1, 1, -1, 0);
        Check.lay(x, 0, 0, 0, 0, 1);
        CHECK.due("at a cone's tip", x.tangent(1, 0, 5), 1);
        sheetIs(x, 5, 0, 0, 0, 0);
        refuses(x, "tangent: to 8", () -> x.tangent(0, 0, 8));
        refuses(x, "tangent: to -1, missing", () -> x.tangent(11, 6, -1));
        refusesPlaces(x, "tangent", (g, s) -> x.tangent(g, s, 3));
        CHECK.due("a refused tangent() makes no sheet", x.tear(3), BentGrounds.FINDING);
    }

    private static void line() {
        BentGrounds x = new BentGrounds();
        Check.squares(x, 0, 1, 1, 1, -1);
        Check.lay(x, 0, 0, 0, 0, 1);
        Check.lay(x, 1, 2, 0, 0, 1);
        CHECK.due("through the middle", x.line(0, 0, 1), 2);
        Check.lay(x, 2, 1, 0, 0, 1);
        Check.lay(x, 3, 1, 1, 0, 1);
        CHECK.due("touching", x.line(0, 2, 3), 1);
        Check.lay(x, 4, 2, 1, 0, 1);
        CHECK.due("outside", x.line(0, 1, 4), 0);
        Check.lay(x, 5, 1, 0, 0, 0);
        CHECK.due("along a far place", x.line(0, 0, 5), 2);
        Check.squares(x, 1, 1, 1, -1, -1);
        Check.lay(x, 4, 1, 1, 1, 1);
        CHECK.due("on a ruled one", x.line(1, 2, 4), 9);
        Check.squares(x, 2, 0, 0, 1, 0);
        CHECK.due("on a plane", x.line(2, 0, 1), 9);
        Check.lay(x, 0, 100, 100, 100, 100);
        Check.lay(x, 1, 100, 100, 100, 99);
        Check.ground(x, 3, 4, 4, 4, 4, 4, 4, 4, 4, 4, 4);
        CHECK.due("the greatest numbers", x.line(3, 0, 1), 1);
        CHECK.tells("lineTold(0)", x, x.lineTold(0), 640000);
        CHECK.tells("lineTold(1)", x, x.lineTold(1), 638400);
        CHECK.tells("lineTold(2)", x, x.lineTold(2), 636804);
    }

    private static void lineRefused() {
        BentGrounds x = new BentGrounds();
        Check.squares(x, 0, 1, 1, 1, -1);
        Check.lay(x, 1, 5, 3, 0, 1);
        refusesPlaces(x, "line, the first", (g, s) -> x.line(g, s, 1));
        refusesPlaces(x, "line, the second", (g, s) -> x.line(g, 1, s));
        Check.lay(x, 2, -10, -6, 0, -2);
        CHECK.finds("a multiple", x, () -> x.line(0, 1, 2), 4);
        CHECK.finds("the same sheet", x, () -> x.line(0, 1, 1), 4);
        Check.lay(x, 2, 500, 0, 0, 0);
        Check.lay(x, 3, 0, 0, 0);
        Check.lay(x, 4, 0, 0, 0, 0);
        CHECK.finds("BEYOND and SIZE", x, () -> x.line(0, 2, 3), 5);
        CHECK.finds("NOUGHT and BEYOND", x, () -> x.line(0, 4, 2), 2);
        CHECK.finds("SIZE and NOTHING", x, () -> x.line(0, 3, 5), 1);
        CHECK.finds("NOUGHT", x, () -> x.line(0, 4, 1), 4);
    }

    private static void lineTold() {
        BentGrounds x = new BentGrounds();
        CHECK.refuses("none was", x, () -> x.lineTold(0), BentGrounds.STATE);
        refuses(x, "BAD is ahead", () -> x.lineTold(3));
        refuses(x, "what -1", () -> x.lineTold(-1));
        Check.squares(x, 0, 1, 2, 3, -4);
        Check.lay(x, 0, 1, 1, 0, 0);
        Check.lay(x, 1, 1, 0, 1, 1);
        CHECK.due("line", x.line(0, 0, 1), 1 + 1);
        CHECK.tells("A", x, x.lineTold(0), 3);
        CHECK.tells("B", x, x.lineTold(1), 1);
        CHECK.tells("C", x, x.lineTold(2), 0);
        CHECK.finds("a refused line", x, () -> x.line(0, 0, 0), 4);
        CHECK.tells("A stays", x, x.lineTold(0), 3);
        x.drop(0);
        CHECK.tells("C stays when the ground is missing", x, x.lineTold(2), 0);
        refuses(x, "what 3", () -> x.lineTold(3));
    }

    private static void cut() {
        BentGrounds x = new BentGrounds();
        Check.squares(x, 0, 1, 1, 1, -1);
        Check.lay(x, 0, 1, 0, 0, 0);
        CHECK.due("through the middle", x.cut(0, 0), 21);
        Check.lay(x, 0, 1, 0, 0, -1);
        CHECK.due("touching", x.cut(0, 0), 20);
        Check.lay(x, 0, 1, 0, 0, -2);
        CHECK.due("outside", x.cut(0, 0), 30);
        Check.lay(x, 0, 0, 0, 0, 1);
        CHECK.due("the far plane", x.cut(0, 0), 30);
        x.turn(0);
        CHECK.due("the far plane, turned", x.cut(0, 0), 30);
        Check.squares(x, 1, 1, 0, -1, 0);
        Check.lay(x, 0, 1, 0, 1, 0);
        CHECK.due("a plane that lies on it", x.cut(1, 0), 0);
        Check.lay(x, 0, 100, -100, 99, 100);
        CHECK.due("great numbers", x.cut(1, 0), 11);
        Check.ground(x, 2, 4, -4, 4, -4, 4, 4, 4, -4, 4, 4);
        CHECK.due("great numbers of both", x.cut(2, 0), 21);
        refusesPlaces(x, "cut", (g, s) -> x.cut(g, s));
    }

    private static void touches() {
        BentGrounds x = new BentGrounds();
        Check.squares(x, 0, 1, 1, 1, -1);
        Check.lay(x, 0, 3, 4, 0, -5);
        CHECK.due("touching", x.touches(0, 0), 1);
        Check.lay(x, 0, 3, 4, 0, -6);
        CHECK.due("outside", x.touches(0, 0), 0);
        Check.lay(x, 0, 3, 4, 0, -4);
        CHECK.due("through", x.touches(0, 0), 0);
        Check.squares(x, 1, 1, 1, -1, 0);
        Check.lay(x, 0, 1, 0, 0, 0);
        CHECK.due("through a cone's tip", x.touches(1, 0), 1);
        Check.lay(x, 0, 0, 0, 0, 1);
        CHECK.due("a cone beside its tip", x.touches(1, 0), 0);
        Check.squares(x, 2, 1, 0, 0, 0);
        CHECK.due("a flat one", x.touches(2, 0), 1);
        refusesPlaces(x, "touches", (g, s) -> x.touches(g, s));
    }

    private static void lines() {
        BentGrounds x = new BentGrounds();
        Check.lay(x, 0, 1, 0, 1, 0);
        Check.lay(x, 1, 0, 0, 0, 1);
        Check.lay(x, 2, 1, 0, 0, 1);
        Check.squares(x, 0, 1, 1, -1, -1);
        CHECK.due("ruled, on it", x.lines(0, 0), 2);
        CHECK.due("ruled, not on it", x.lines(0, 1), 0);
        Check.squares(x, 1, 1, 1, -1, 0);
        CHECK.due("cone, on it", x.lines(1, 0), 1);
        CHECK.due("cone, its tip", x.lines(1, 1), 9);
        CHECK.due("cone, not on it", x.lines(1, 2), 0);
        Check.squares(x, 2, 1, 1, 1, 0);
        CHECK.due("cone of a tip alone", x.lines(2, 1), 0);
        Check.squares(x, 3, 1, 0, -1, 0);
        CHECK.due("two planes, on one", x.lines(3, 0), 9);
        CHECK.due("two planes, on both", x.lines(3, 1), 9);
        CHECK.due("two planes, not on them", x.lines(3, 2), 0);
        Check.squares(x, 4, -1, -1, 0, 0);
        CHECK.due("a line alone", x.lines(4, 1), 1);
        CHECK.due("a line alone, beside", x.lines(4, 0), 0);
        Check.squares(x, 5, -1, 0, 0, 0);
        CHECK.due("one plane", x.lines(5, 1), 9);
        Check.squares(x, 6, 1, 1, 1, -1);
        CHECK.due("a ball", x.lines(6, 2), 0);
        Check.squares(x, 7, 1, 1, -1, 1);
        CHECK.due("two sheets", x.lines(7, 0), 0);
        refusesPlaces(x, "lines", (g, s) -> x.lines(g, s));
    }

    private static void middle() {
        BentGrounds x = new BentGrounds();
        CHECK.due("lower() before", x.lower(), 1);
        CHECK.due("upper() before", x.upper(), 0);
        Check.ground(x, 0, -4, 0, 0, 2, 3, 0, -2, 1, 4, 1);
        CHECK.fraction("x", x, x.middle(0, 0), 1, 1, 2);
        CHECK.fraction("y", x, x.middle(0, 1), 1, 2, 3);
        CHECK.fraction("z", x, x.middle(0, 2), 1, -4, 1);
        Check.ground(x, 1, 2, 1, 1, 1, 2, 1, 0, -2, 0, 0);
        CHECK.fraction("x, mixed", x, x.middle(1, 0), 1, -5, 8);
        CHECK.fraction("y, mixed", x, x.middle(1, 1), 1, 3, 8);
        CHECK.fraction("z, mixed", x, x.middle(1, 2), 1, -1, 8);
        Check.squares(x, 2, -1, -2, -3, 4);
        CHECK.fraction("0 by 1", x, x.middle(2, 2), 1, 0, 1);
        Check.squares(x, 3, 1, 1, 0, -1);
        CHECK.finds("a tube has none", x, () -> x.middle(3, 0), 4);
        Check.squares(x, 4, 1, 1, -1, 0);
        CHECK.fraction("a cone's tip", x, x.middle(4, 0), 1, 0, 1);
        refuses(x, "i 3", () -> x.middle(0, 3));
        refuses(x, "i -1", () -> x.middle(0, -1));
        refuses(x, "ground 12", () -> x.middle(12, 0));
        refuses(x, "missing, i 3: BAD is ahead", () -> x.middle(9, 3));
        CHECK.finds("missing", x, () -> x.middle(9, 0), 1);
    }
}
