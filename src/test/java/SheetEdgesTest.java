/** Promises 1 to 5 at every end: sizes 0 to 16, places from one before the first to one behind the last. */
public final class SheetEdgesTest {
    private static final Check CHECK = new Check("SheetEdgesTest");
    private static final int LEAST = Integer.MIN_VALUE, GREATEST = Integer.MAX_VALUE;

    public static void main(String[] args) {
        newObject();
        twoObjects();
        sizes();
        places();
        tornAndAnew();
        copyOrderOfFindings();
        copyToAnother();
        copyToItself();
        CHECK.end();
    }

    private static void newObject() {
        BentGrounds x = new BentGrounds();
        CHECK.due("asked()", x.asked(), 0);
        CHECK.due("upper()", x.upper(), 0);
        CHECK.due("lower()", x.lower(), 1);
        CHECK.due("finding()", x.finding(), 0);
        for (int f = 1; f <= 5; f++) {
            CHECK.due("findings(" + f + ")", x.findings(f), 0);
        }
        for (int what = 0; what <= 4; what++) {
            CHECK.due("count(" + what + ")", x.count(what), 0);
        }
        CHECK.refuses("no line", x, () -> x.lineTold(0), BentGrounds.STATE);
        CHECK.refuses("no form", x, () -> x.formTold(0), BentGrounds.STATE);
        CHECK.refuses("no place", x, () -> x.place(0, 0), BentGrounds.NONE);
    }

    private static void twoObjects() {
        BentGrounds x = new BentGrounds();
        BentGrounds y = new BentGrounds();
        Check.round(x, 0, 1, 0, 0, -1);
        x.form(0, 0);
        x.middle(0, 0);
        x.shared(0, 0, 2);
        CHECK.due("another object's sheets", y.count(0), 0);
        CHECK.due("another object's grounds", y.count(1), 0);
        CHECK.due("another object's form", y.formTold(0), BentGrounds.STATE);
        CHECK.due("another object's fraction", y.upper(), 0);
        CHECK.due("another object's places", y.place(0, 0), BentGrounds.NONE);
        CHECK.due("another object's digest", y.digest(), new BentGrounds().digest());
    }

    private static void sizes() {
        for (int s = 0; s < 8; s++) {
            for (int n = 0; n <= 16; n++) {
                sizeOf(s, n);
            }
            BentGrounds x = new BentGrounds();
            int sheet = s;
            for (int n : new int[] {-1, -2, -16, -17, LEAST}) {
                CHECK.finds("sheet(" + s + ", " + n + ")", x, () -> x.sheet(sheet, n), 5);
            }
            for (int n : new int[] {17, 18, 100, GREATEST}) {
                CHECK.refuses("sheet(" + s + ", " + n + ")", x, () -> x.sheet(sheet, n), BentGrounds.BAD);
            }
            CHECK.due("none is there", x.count(0), 0);
        }
    }

    private static void sizeOf(int s, int n) {
        BentGrounds x = new BentGrounds();
        CHECK.due("sheet(" + s + ", " + n + ")", x.sheet(s, n), n);
        CHECK.due("one is there", x.count(0), 1);
        for (int i = 0; i < n; i++) {
            CHECK.tells("place " + i + " of " + n, x, x.lay(s, i, i + 1), 0);
        }
        CHECK.due("anew", x.sheet(s, n), n);
        CHECK.due("one is there still", x.count(0), 1);
        for (int i = 0; i < n; i++) {
            CHECK.tells("place " + i + " of " + n + " anew", x, x.lay(s, i, 0), 0);
        }
    }

    private static void places() {
        for (int n = 0; n <= 16; n++) {
            BentGrounds x = new BentGrounds();
            x.sheet(2, n);
            for (int i : new int[] {-1, -2, LEAST, n, n + 1, 16, 17, GREATEST}) {
                CHECK.finds("place " + i + " of " + n, x, () -> x.lay(2, i, 1), 2);
            }
            if (n > 0) {
                CHECK.tells("the first of " + n, x, x.lay(2, 0, LEAST), 0);
                CHECK.tells("the first of " + n + " again", x, x.lay(2, 0, GREATEST), LEAST);
                CHECK.tells("the last of " + n, x, x.lay(2, n - 1, 3), n == 1 ? GREATEST : 0);
            }
        }
    }

    private static void tornAndAnew() {
        BentGrounds x = new BentGrounds();
        for (int s = 0; s < 8; s++) {
            Check.lay(x, s, 1, 2, 3);
        }
        for (int s = 0; s < 8; s++) {
            int sheet = s;
            CHECK.due("tear(" + s + ")", x.tear(s), 1);
            CHECK.due("count(0)", x.count(0), 7 - s);
            CHECK.finds("torn: lay", x, () -> x.lay(sheet, 0, 1), 1);
            CHECK.finds("torn: tear", x, () -> x.tear(sheet), 1);
        }
        x.sheet(3, 3);
        CHECK.tells("anew after tear(): 0", x, x.lay(3, 2, 1), 0);
    }

    /** SIZE, NOTHING, BEYOND: that which is earlier in this row is told. */
    private static void copyOrderOfFindings() {
        BentGrounds x = new BentGrounds();
        Check.lay(x, 0, 1, 2, 3);
        Check.lay(x, 1, 4, 5);
        CHECK.finds("SIZE, NOTHING, BEYOND", x, () -> x.copy(2, 9, 3, 9, -1), 5);
        CHECK.finds("SIZE, BEYOND", x, () -> x.copy(0, -1, 1, 9, LEAST), 5);
        CHECK.finds("SIZE alone", x, () -> x.copy(0, 0, 1, 0, -1), 5);
        CHECK.finds("SIZE, the same one", x, () -> x.copy(0, 1, 0, 1, -1), 5);
        CHECK.finds("NOTHING from, BEYOND", x, () -> x.copy(2, 0, 1, 0, 17), 1);
        CHECK.finds("NOTHING to, BEYOND", x, () -> x.copy(0, -1, 2, 0, 1), 1);
        CHECK.finds("NOTHING, none copied", x, () -> x.copy(2, 0, 2, 0, 0), 1);
        CHECK.finds("BEYOND: i and n as great as can be", x, () -> x.copy(0, GREATEST, 1, 0, GREATEST), 2);
        CHECK.finds("BEYOND: j and n as great as can be", x, () -> x.copy(0, 0, 1, GREATEST, GREATEST), 2);
        CHECK.finds("BEYOND: i as small as can be", x, () -> x.copy(0, LEAST, 1, 0, 1), 2);
        CHECK.finds("BEYOND: j as small as can be", x, () -> x.copy(0, 0, 1, LEAST, 0), 2);
    }

    private static int[] row(int first, int size) {
        int[] row = new int[size];
        for (int i = 0; i < size; i++) {
            row[i] = first + i;
        }
        return row;
    }

    private static void rowIs(BentGrounds x, String what, int s, int[] want) {
        for (int i = 0; i < want.length; i++) {
            CHECK.tells(what + ", place " + i, x, x.lay(s, i, want[i]), want[i]);
        }
    }

    private static void copyToAnother() {
        for (int from : new int[] {0, 1, 3, 16}) {
            for (int to : new int[] {0, 2, 16}) {
                for (int n : new int[] {0, 1, 2, 3, 15, 16, 17}) {
                    for (int i : new int[] {-1, 0, 1, from - n, from - n + 1, from, from + 1}) {
                        for (int j : new int[] {-1, 0, 1, to - n, to - n + 1, to, to + 1}) {
                            copyOne(row(100, from), row(200, to), i, j, n);
                        }
                    }
                }
            }
        }
    }

    private static void copyOne(int[] from, int[] to, int i, int j, int n) {
        BentGrounds x = new BentGrounds();
        Check.lay(x, 5, from);
        Check.lay(x, 6, to);
        String what = "copy(5 of " + from.length + ", " + i + ", 6 of " + to.length + ", " + j + ", " + n + ")";
        if (i < 0 || j < 0 || i + n > from.length || j + n > to.length) {
            CHECK.finds(what, x, () -> x.copy(5, i, 6, j, n), 2);
            return;
        }
        CHECK.due(what, x.copy(5, i, 6, j, n), 1);
        int[] want = to.clone();
        for (int k = 0; k < n; k++) {
            want[j + k] = from[i + k];
        }
        rowIs(x, what, 6, want);
        rowIs(x, what + " from", 5, from);
    }

    /** As if taken ahead: upward and downward by any way, with any part in common. */
    private static void copyToItself() {
        for (int i = 0; i <= 5; i++) {
            for (int j = 0; j <= 5; j++) {
                for (int n = 0; n <= 5 - Math.max(i, j); n++) {
                    BentGrounds x = new BentGrounds();
                    int[] row = row(1, 5);
                    Check.lay(x, 0, row);
                    String what = "copy(0, " + i + ", 0, " + j + ", " + n + ")";
                    CHECK.due(what, x.copy(0, i, 0, j, n), 1);
                    int[] want = row.clone();
                    for (int k = 0; k < n; k++) {
                        want[j + k] = row[i + k];
                    }
                    rowIs(x, what, 0, want);
                }
            }
        }
    }
}
