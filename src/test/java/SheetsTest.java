/** Promises 1 to 5: a new object, sheet, lay, tear, copy. */
public final class SheetsTest {
    private static final Check CHECK = new Check("SheetsTest");

    public static void main(String[] args) {
        newObject();
        sheet();
        lay();
        tear();
        copy();
        copyOverItself();
        CHECK.end();
    }

    private static void newObject() {
        BentGrounds x = new BentGrounds();
        for (int what = 0; what <= 4; what++) {
            CHECK.due("new: count(" + what + ")", x.count(what), 0);
        }
        for (int s = 0; s < 8; s++) {
            int sheet = s;
            CHECK.finds("new: tear(" + s + ")", x, () -> x.tear(sheet), 1);
        }
        for (int g = 0; g < 12; g++) {
            int ground = g;
            CHECK.finds("new: drop(" + g + ")", x, () -> x.drop(ground), 1);
        }
    }

    private static void sheet() {
        BentGrounds x = new BentGrounds();
        CHECK.due("sheet(0, 0)", x.sheet(0, 0), 0);
        CHECK.due("sheet(7, 16)", x.sheet(7, 16), 16);
        CHECK.due("count(0)", x.count(0), 2);
        CHECK.due("lay(7, 15, 9)", x.lay(7, 15, 9), 1);
        CHECK.due("sheet(7, 16) anew", x.sheet(7, 16), 16);
        CHECK.tells("lay(7, 15, 1) on a new row", x, x.lay(7, 15, 1), 0);
        x.sheet(7, 3);
        x.sheet(7, 16);
        CHECK.tells("lay(7, 15, 1) after a short row", x, x.lay(7, 15, 1), 0);
        CHECK.refuses("sheet(8, 1)", x, () -> x.sheet(8, 1), BentGrounds.BAD);
        CHECK.refuses("sheet(-1, 1)", x, () -> x.sheet(-1, 1), BentGrounds.BAD);
        CHECK.refuses("sheet(7, 17)", x, () -> x.sheet(7, 17), BentGrounds.BAD);
        CHECK.refuses("sheet(8, -1): BAD is ahead", x, () -> x.sheet(8, -1), BentGrounds.BAD);
        CHECK.finds("sheet(7, -1)", x, () -> x.sheet(7, -1), 5);
        CHECK.finds("sheet(7, least)", x, () -> x.sheet(7, Integer.MIN_VALUE), 5);
        CHECK.tells("a refused sheet() leaves the row", x, x.lay(7, 15, 1), 1);
    }

    private static void lay() {
        BentGrounds x = new BentGrounds();
        x.sheet(2, 3);
        CHECK.tells("lay(2, 0, 5)", x, x.lay(2, 0, 5), 0);
        CHECK.tells("lay(2, 0, greatest)", x, x.lay(2, 0, Integer.MAX_VALUE), 5);
        CHECK.tells("lay(2, 0, 1)", x, x.lay(2, 0, 1), Integer.MAX_VALUE);
        CHECK.tells("lay(2, 2, 7)", x, x.lay(2, 2, 7), 0);
        CHECK.refuses("lay(8, 0, 1)", x, () -> x.lay(8, 0, 1), BentGrounds.BAD);
        CHECK.refuses("lay(-1, 0, 1)", x, () -> x.lay(-1, 0, 1), BentGrounds.BAD);
        CHECK.finds("lay(3, 0, 1)", x, () -> x.lay(3, 0, 1), 1);
        CHECK.finds("lay(3, 99, 1): NOTHING is ahead", x, () -> x.lay(3, 99, 1), 1);
        CHECK.finds("lay(2, 3, 1)", x, () -> x.lay(2, 3, 1), 2);
        CHECK.finds("lay(2, -1, 1)", x, () -> x.lay(2, -1, 1), 2);
        CHECK.finds("lay(2, 16, 1)", x, () -> x.lay(2, 16, 1), 2);
    }

    private static void tear() {
        BentGrounds x = new BentGrounds();
        x.sheet(4, 2);
        CHECK.due("tear(4)", x.tear(4), 1);
        CHECK.due("count(0)", x.count(0), 0);
        CHECK.finds("tear(4) again", x, () -> x.tear(4), 1);
        CHECK.refuses("tear(8)", x, () -> x.tear(8), BentGrounds.BAD);
        CHECK.refuses("tear(-1)", x, () -> x.tear(-1), BentGrounds.BAD);
        x.sheet(5, 0);
        CHECK.due("tear(5), a row of none", x.tear(5), 1);
    }

    private static void copy() {
        BentGrounds x = new BentGrounds();
        Check.lay(x, 0, 1, 2, 3);
        Check.lay(x, 1, 7, 8);
        CHECK.due("copy(0, 1, 1, 0, 2)", x.copy(0, 1, 1, 0, 2), 1);
        CHECK.tells("first place", x, x.lay(1, 0, 7), 2);
        CHECK.tells("second place", x, x.lay(1, 1, 8), 3);
        CHECK.due("copy of none at the end", x.copy(0, 3, 1, 2, 0), 1);
        CHECK.refuses("copy(8, ..)", x, () -> x.copy(8, 0, 1, 0, 1), BentGrounds.BAD);
        CHECK.refuses("copy(.., -1, ..)", x, () -> x.copy(0, 0, -1, 0, -1), BentGrounds.BAD);
        CHECK.finds("copy of -1", x, () -> x.copy(0, 0, 1, 0, -1), 5);
        CHECK.finds("copy of -1, missing: SIZE is ahead", x, () -> x.copy(2, 0, 1, 0, -1), 5);
        CHECK.finds("copy from a missing one", x, () -> x.copy(2, 0, 1, 0, 1), 1);
        CHECK.finds("copy to a missing one, beyond", x, () -> x.copy(0, 9, 2, 0, 1), 1);
        CHECK.finds("copy of more than it has", x, () -> x.copy(0, 2, 1, 0, 2), 2);
        CHECK.finds("copy of more than the other has", x, () -> x.copy(0, 0, 1, 1, 2), 2);
        CHECK.finds("copy from -1", x, () -> x.copy(0, -1, 1, 0, 1), 2);
        CHECK.finds("copy to -1", x, () -> x.copy(0, 0, 1, -1, 1), 2);
        CHECK.finds("copy of the greatest number", x, () -> x.copy(0, 1, 1, 1, Integer.MAX_VALUE), 2);
        CHECK.finds("copy from the greatest place", x, () -> x.copy(0, Integer.MAX_VALUE, 1, 0, 1), 2);
        CHECK.finds("copy of none from behind the end", x, () -> x.copy(0, 4, 1, 0, 0), 2);
        CHECK.finds("copy of none to behind the end", x, () -> x.copy(0, 0, 1, 3, 0), 2);
    }

    private static void copyOverItself() {
        BentGrounds x = new BentGrounds();
        Check.lay(x, 0, 1, 2, 3, 4, 5);
        CHECK.due("copy upward", x.copy(0, 0, 0, 1, 4), 1);
        int[] upward = {1, 1, 2, 3, 4};
        for (int i = 0; i < 5; i++) {
            CHECK.tells("copied upward, place " + i, x, x.lay(0, i, i), upward[i]);
        }
        CHECK.due("copy downward", x.copy(0, 1, 0, 0, 4), 1);
        int[] downward = {1, 2, 3, 4, 4};
        for (int i = 0; i < 5; i++) {
            CHECK.tells("copied downward, place " + i, x, x.lay(0, i, i), downward[i]);
        }
    }
}
