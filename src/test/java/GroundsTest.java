/** Promises 6 to 15: ground, drop, table, told, mark, turn, shear, swap, same, alike. */
public final class GroundsTest {
    private static final Check CHECK = new Check("GroundsTest");

    public static void main(String[] args) {
        ground();
        kinds();
        drop();
        table();
        told();
        signsThatAreSquares();
        mark();
        turn();
        shear();
        shearChangesKind();
        swap();
        same();
        alike();
        CHECK.end();
    }

    private static void ground() {
        BentGrounds x = new BentGrounds();
        Check.lay(x, 0, 1, 0, 0, 0, 1, 0, 0, 1, 0, -1, 99, 99);
        CHECK.due("only the first ten count", x.ground(0, 0), 3);
        Check.lay(x, 1, 1, 0, 0, 0, 1);
        CHECK.due("places that lack are 0", x.ground(1, 1), 2);
        CHECK.due("a ground told anew", x.ground(1, 0), 3);
        CHECK.due("count(1)", x.count(1), 2);
        CHECK.refuses("ground(12, 0)", x, () -> x.ground(12, 0), BentGrounds.BAD);
        CHECK.refuses("ground(-1, 0)", x, () -> x.ground(-1, 0), BentGrounds.BAD);
        CHECK.refuses("ground(0, 8)", x, () -> x.ground(0, 8), BentGrounds.BAD);
        CHECK.refuses("ground(0, -1)", x, () -> x.ground(0, -1), BentGrounds.BAD);
        CHECK.finds("ground(0, 5)", x, () -> x.ground(0, 5), 1);
        Check.lay(x, 2, 0, 0, 0, 0, 0, 0, 0, 0, 0, 5);
        CHECK.finds("a number 5", x, () -> x.ground(0, 2), 2);
        Check.lay(x, 2, 0, -5);
        CHECK.finds("a number -5", x, () -> x.ground(0, 2), 2);
        Check.lay(x, 2, 0, 0, 0, 0, 0, 0, 0, 0, 0, 0, 1);
        CHECK.finds("all ten 0", x, () -> x.ground(0, 2), 4);
        x.sheet(2, 0);
        CHECK.finds("a row of none", x, () -> x.ground(0, 2), 4);
        Check.lay(x, 2, 4, -4, 4, -4, 4, -4, 4, -4, 4, -4);
        CHECK.due("the greatest and least numbers", x.ground(0, 2) >= 0 ? 1 : 0, 1);
    }

    private static void kinds() {
        BentGrounds x = new BentGrounds();
        CHECK.due("three above, one below", Check.squares(x, 0, 1, 2, 3, -4), 3);
        CHECK.due("three below, one above", Check.squares(x, 0, -1, -2, -3, 4), 3);
        CHECK.due("the far letter among the three", Check.squares(x, 0, -1, 2, 3, 4), 0);
        CHECK.due("a bowl", Check.ground(x, 0, 1, 0, 0, 0, 1, 0, 0, 0, -1, 0), 0);
        CHECK.due("all four above", Check.squares(x, 0, 1, 1, 1, 1), 0);
        CHECK.due("all four below", Check.squares(x, 0, -1, -1, -1, -1), 0);
        CHECK.due("two and two", Check.squares(x, 0, 1, -1, 1, -1), 4);
        CHECK.due("two and one", Check.squares(x, 0, 1, -1, 1, 0), 1);
        CHECK.due("three alike and one 0", Check.squares(x, 0, 1, 1, 1, 0), 1);
        CHECK.due("a tube", Check.squares(x, 0, 1, 1, 0, -1), 1);
        CHECK.due("two planes", Check.squares(x, 0, 1, 0, -1, 0), 2);
        CHECK.due("a line", Check.squares(x, 0, 1, 0, 1, 0), 2);
        CHECK.due("the far plane twice", Check.squares(x, 0, 0, 0, 0, 3), 2);
        CHECK.due("all numbers 4", Check.ground(x, 0, 4, 4, 4, 4, 4, 4, 4, 4, 4, 4), 2);
    }

    private static void drop() {
        BentGrounds x = new BentGrounds();
        Check.squares(x, 3, 1, 1, 1, -1);
        CHECK.due("drop(3)", x.drop(3), 1);
        CHECK.due("count(1)", x.count(1), 0);
        CHECK.due("count(2)", x.count(2), 0);
        CHECK.finds("drop(3) again", x, () -> x.drop(3), 1);
        CHECK.finds("told(3, 0)", x, () -> x.told(3, 0), 1);
        CHECK.refuses("drop(12)", x, () -> x.drop(12), BentGrounds.BAD);
        CHECK.refuses("drop(-1)", x, () -> x.drop(-1), BentGrounds.BAD);
    }

    private static void table() {
        BentGrounds x = new BentGrounds();
        Check.ground(x, 11, 1, 2, 3, 4, -1, -2, -3, -4, 0, 1);
        int[][] want = {{1, 2, 3, 4}, {2, -1, -2, -3}, {3, -2, -4, 0}, {4, -3, 0, 1}};
        for (int i = 0; i < 4; i++) {
            for (int j = 0; j < 4; j++) {
                CHECK.tells("table(11, " + i + ", " + j + ")", x, x.table(11, i, j), want[i][j]);
            }
        }
        CHECK.refuses("table(11, 4, 0)", x, () -> x.table(11, 4, 0), BentGrounds.BAD);
        CHECK.refuses("table(11, 0, 4)", x, () -> x.table(11, 0, 4), BentGrounds.BAD);
        CHECK.refuses("table(11, -1, 0)", x, () -> x.table(11, -1, 0), BentGrounds.BAD);
        CHECK.refuses("table(11, 0, -1)", x, () -> x.table(11, 0, -1), BentGrounds.BAD);
        CHECK.refuses("table(12, 0, 0)", x, () -> x.table(12, 0, 0), BentGrounds.BAD);
        CHECK.refuses("table(0, 4, 0): BAD is ahead", x, () -> x.table(0, 4, 0), BentGrounds.BAD);
        CHECK.finds("table(0, 0, 0)", x, () -> x.table(0, 0, 0), 1);
    }

    private static void allTold(BentGrounds x, int g, int... want) {
        for (int what = 0; what < 10; what++) {
            CHECK.tells("told(" + g + ", " + what + ")", x, x.told(g, what), want[what]);
        }
    }

    private static void told() {
        BentGrounds x = new BentGrounds();
        Check.squares(x, 0, 2, 3, -1, -4);
        allTold(x, 0, 4, 2, 2, 0, 2, 1, 0, 24, -6, 2221);
        Check.squares(x, 1, -2, -3, -1, 4);
        allTold(x, 1, 3, 1, 3, 0, 0, 3, 0, -24, -6, 3130);
        Check.ground(x, 2, 1, 0, 0, 0, 1, 0, 0, 0, -1, 0);
        allTold(x, 2, 0, 3, 1, 0, 2, 0, 1, -1, 0, 3120);
        Check.squares(x, 3, 0, 0, 0, -1);
        allTold(x, 3, 2, 0, 1, 3, 0, 0, 3, 0, 0, 1000);
        Check.squares(x, 4, 0, -1, -1, 1);
        allTold(x, 4, 1, 1, 2, 1, 0, 2, 1, 0, 0, 2120);
        Check.ground(x, 5, 0, 0, 0, 1, 0, 1, 0, 0, 0, 0);
        allTold(x, 5, 4, 2, 2, 0, 1, 1, 1, 1, 0, 2211);
        CHECK.refuses("told(0, 10)", x, () -> x.told(0, 10), BentGrounds.BAD);
        CHECK.refuses("told(0, -1)", x, () -> x.told(0, -1), BentGrounds.BAD);
        CHECK.refuses("told(12, 0)", x, () -> x.told(12, 0), BentGrounds.BAD);
        CHECK.refuses("told(9, 10): BAD is ahead", x, () -> x.told(9, 10), BentGrounds.BAD);
        CHECK.finds("told(9, 0)", x, () -> x.told(9, 0), 1);
    }

    /** The greatest worth that small numbers can have: four rows at right angles. */
    private static void signsThatAreSquares() {
        BentGrounds x = new BentGrounds();
        CHECK.due("rows at right angles", Check.ground(x, 0, 4, 4, 4, 4, -4, 4, -4, -4, -4, 4) >= 0 ? 1 : 0, 1);
        CHECK.due("told(0, 7)", x.told(0, 7), 1);
        CHECK.due("the greatest worth", Math.abs(x.asked()), 4096);
        CHECK.due("two and two", Check.ground(x, 1, 4, 4, 4, 4, 4, -4, -4, -4, 4, -4), 4);
        CHECK.due("a greatest square", x.mark(1, 4), 1);
    }

    private static void mark() {
        BentGrounds x = new BentGrounds();
        Check.squares(x, 0, 1, 1, 1, -1);
        CHECK.due("a ball of three above", x.mark(0, 3), 1);
        x.turn(0);
        CHECK.due("a ball of three below", x.mark(0, 3), 0);
        Check.squares(x, 1, 1, 1, -1, -2);
        CHECK.due("worth 2", x.mark(1, 4), 0);
        Check.squares(x, 1, 2, 1, -1, -2);
        CHECK.due("worth 4", x.mark(1, 4), 1);
        Check.squares(x, 2, 1, 1, -1, 0);
        CHECK.due("a cone", x.mark(2, 1), 1);
        Check.squares(x, 3, 1, 0, -1, 0);
        CHECK.due("a flat one as a cone", x.mark(3, 1), 2);
        CHECK.due("a flat one with both signs", x.mark(3, 2), 1);
        Check.squares(x, 4, 1, 0, 1, 0);
        CHECK.due("a flat one with one sign", x.mark(4, 2), 0);
        Check.squares(x, 5, 0, 0, -1, 0);
        CHECK.due("one plane, as a cone", x.mark(5, 1), 3);
        CHECK.due("one plane", x.mark(5, 2), 0);
        Check.squares(x, 6, 1, 1, 1, 1);
        CHECK.refuses("mark(0, 0)", x, () -> x.mark(0, 0), BentGrounds.BAD);
        CHECK.refuses("mark(0, 5)", x, () -> x.mark(0, 5), BentGrounds.BAD);
        CHECK.refuses("mark(0, -1)", x, () -> x.mark(0, -1), BentGrounds.BAD);
        CHECK.refuses("mark(12, 1)", x, () -> x.mark(12, 1), BentGrounds.BAD);
        CHECK.refuses("mark(7, 0): BAD is ahead", x, () -> x.mark(7, 0), BentGrounds.BAD);
        CHECK.finds("mark(7, 1)", x, () -> x.mark(7, 1), 1);
        CHECK.finds("a cone is not flat", x, () -> x.mark(2, 2), 3);
        CHECK.finds("a ball is no cone", x, () -> x.mark(0, 1), 3);
        CHECK.finds("a ball is not ruled", x, () -> x.mark(0, 4), 3);
        CHECK.finds("a ruled one is no ball", x, () -> x.mark(1, 3), 3);
        for (int kind = 1; kind <= 4; kind++) {
            int asked = kind;
            CHECK.finds("a ground alone is no kind " + kind, x, () -> x.mark(6, asked), 3);
        }
    }

    private static void turn() {
        BentGrounds x = new BentGrounds();
        Check.ground(x, 0, 1, 1, 0, 0, 2, 0, -2, 1, 0, 2);
        int kind = x.ground(0, 7);
        CHECK.due("turn(0)", x.turn(0), kind);
        int[] want = {-1, -1, 0, 0, -1, -2, 0, 2, 0, 0, -1, 0, 0, 2, 0, -2};
        for (int k = 0; k < 16; k++) {
            CHECK.tells("turned number " + k, x, x.table(0, k / 4, k % 4), want[k]);
        }
        Check.squares(x, 1, 1, 1, 1, -1);
        CHECK.due("turn(1)", x.turn(1), 3);
        allTold(x, 1, 3, 1, 3, 0, 0, 3, 0, -1, -1, 3130);
        CHECK.refuses("turn(12)", x, () -> x.turn(12), BentGrounds.BAD);
        CHECK.finds("turn(5)", x, () -> x.turn(5), 1);
    }

    private static void shear() {
        BentGrounds x = new BentGrounds();
        Check.ground(x, 0, 1, 0, 1, 0, 0, 0, 0, 0, 0, -1);
        CHECK.due("x is x - 2 y", x.shear(0, 0, 1, -2), 1);
        int[] want = {1, -2, 1, 0, -2, 4, -2, 0, 1, -2, 0, 0, 0, 0, 0, -1};
        for (int k = 0; k < 16; k++) {
            CHECK.tells("sheared number " + k, x, x.table(0, k / 4, k % 4), want[k]);
        }
        CHECK.due("shear by 0", x.shear(0, 0, 1, 0) >= 0 ? 1 : 0, 1);
        CHECK.tells("number 5 stays", x, x.table(0, 1, 1), 4);
        CHECK.finds("beyond 4", x, () -> x.shear(0, 1, 2, 2), 2);
        CHECK.refuses("i as j", x, () -> x.shear(0, 1, 1, 1), BentGrounds.BAD);
        CHECK.refuses("i 4", x, () -> x.shear(0, 4, 1, 1), BentGrounds.BAD);
        CHECK.refuses("i -1", x, () -> x.shear(0, -1, 1, 1), BentGrounds.BAD);
        CHECK.refuses("j 4", x, () -> x.shear(0, 0, 4, 1), BentGrounds.BAD);
        CHECK.refuses("j -1", x, () -> x.shear(0, 0, -1, 1), BentGrounds.BAD);
        CHECK.refuses("k 3", x, () -> x.shear(0, 0, 1, 3), BentGrounds.BAD);
        CHECK.refuses("k -3", x, () -> x.shear(0, 0, 1, -3), BentGrounds.BAD);
        CHECK.refuses("ground 12", x, () -> x.shear(12, 0, 1, 1), BentGrounds.BAD);
        CHECK.refuses("missing, k 3: BAD is ahead", x, () -> x.shear(5, 0, 1, 3), BentGrounds.BAD);
        CHECK.finds("missing", x, () -> x.shear(5, 0, 1, 1), 1);
    }

    /** SIGNS stay, but those of the LESSER TABLE need not, nor the KIND. */
    private static void shearChangesKind() {
        BentGrounds x = new BentGrounds();
        Check.squares(x, 0, 1, 1, 1, -1);
        CHECK.due("w is w + 2 x", x.shear(0, 3, 0, 2), 0);
        CHECK.tells("told(0, 1)", x, x.told(0, 1), 3);
        CHECK.tells("told(0, 5)", x, x.told(0, 5), 1);
        CHECK.due("w is w - 2 x", x.shear(0, 3, 0, -2), 3);
    }

    private static void swap() {
        BentGrounds x = new BentGrounds();
        Check.ground(x, 0, 1, 2, 3, 4, -1, -2, -3, -4, 0, 1);
        int kind = x.ground(1, 7);
        CHECK.due("swap(0, 0, 3)", x.swap(0, 0, 3) >= 0 ? 1 : 0, 1);
        int[] want = {1, -3, 0, 4, -3, -1, -2, 2, 0, -2, -4, 3, 4, 2, 3, 1};
        for (int k = 0; k < 16; k++) {
            CHECK.tells("swapped number " + k, x, x.table(0, k / 4, k % 4), want[k]);
        }
        CHECK.due("swap back", x.swap(0, 3, 0), kind);
        CHECK.tells("number xy", x, x.table(0, 0, 1), 2);
        CHECK.due("a letter with itself", x.swap(0, 2, 2), kind);
        CHECK.tells("number xz", x, x.table(0, 0, 2), 3);
        Check.squares(x, 2, 1, 1, 1, -1);
        CHECK.due("a ball's far letter", x.swap(2, 1, 3), 0);
        CHECK.due("and back", x.swap(2, 1, 3), 3);
        CHECK.refuses("swap(0, 4, 0)", x, () -> x.swap(0, 4, 0), BentGrounds.BAD);
        CHECK.refuses("swap(0, 0, 4)", x, () -> x.swap(0, 0, 4), BentGrounds.BAD);
        CHECK.refuses("swap(0, -1, 0)", x, () -> x.swap(0, -1, 0), BentGrounds.BAD);
        CHECK.refuses("swap(0, 0, -1)", x, () -> x.swap(0, 0, -1), BentGrounds.BAD);
        CHECK.refuses("swap(12, 0, 1)", x, () -> x.swap(12, 0, 1), BentGrounds.BAD);
        CHECK.finds("swap(5, 0, 1)", x, () -> x.swap(5, 0, 1), 1);
    }

    private static void same() {
        BentGrounds x = new BentGrounds();
        Check.squares(x, 0, 1, 1, 1, -1);
        Check.squares(x, 1, -2, -2, 1, -2);
        Check.squares(x, 2, 1, 1, -1, -1);
        Check.squares(x, 3, 3, 1, 1, -2);
        Check.squares(x, 4, 1, 0, 1, 0);
        Check.squares(x, 5, 1, 0, -1, 0);
        CHECK.due("three and one, turned", x.same(0, 1), 1);
        CHECK.due("three and one, straight", x.same(0, 3), 1);
        CHECK.due("three and one, two and two", x.same(0, 2), 0);
        CHECK.due("two of one sort, one of each", x.same(4, 5), 0);
        CHECK.due("one with itself", x.same(5, 5), 1);
        refusesPairs(x, "same");
    }

    private static void alike() {
        BentGrounds x = new BentGrounds();
        Check.squares(x, 0, 1, 1, 1, -1);
        Check.squares(x, 1, -2, -2, -3, 1);
        Check.squares(x, 2, -1, 1, 1, 1);
        Check.squares(x, 3, 1, 1, -1, -1);
        Check.squares(x, 4, 1, -1, -1, 1);
        CHECK.due("two balls, one turned", x.alike(0, 1), 1);
        CHECK.due("a ball and what is none", x.alike(0, 2), 0);
        CHECK.due("ruled ones, one turned", x.alike(3, 4), 1);
        CHECK.due("one with itself", x.alike(2, 2), 1);
        refusesPairs(x, "alike");
    }

    private static int ask(BentGrounds x, String call, int g, int h) {
        return call.equals("same") ? x.same(g, h) : x.alike(g, h);
    }

    private static void refusesPairs(BentGrounds x, String call) {
        CHECK.refuses(call + "(12, 0)", x, () -> ask(x, call, 12, 0), BentGrounds.BAD);
        CHECK.refuses(call + "(0, -1)", x, () -> ask(x, call, 0, -1), BentGrounds.BAD);
        CHECK.refuses(call + "(9, 12): BAD is ahead", x, () -> ask(x, call, 9, 12), BentGrounds.BAD);
        CHECK.finds(call + "(9, 0)", x, () -> ask(x, call, 9, 0), 1);
        CHECK.finds(call + "(0, 9)", x, () -> ask(x, call, 0, 9), 1);
        CHECK.finds(call + "(9, 9): once", x, () -> ask(x, call, 9, 9), 1);
    }
}
