import java.util.List;

/** What every call with a PLACE or a PLANE refuses of its SHEET, at both ends and one farther (promises 16 to 22). */
public final class PlaceEdgesTest {
    private static final Check CHECK = new Check("PlaceEdgesTest");
    private static final int[] FAR = {101, -101, 102, 1000, Integer.MAX_VALUE, Integer.MIN_VALUE};

    /** A call with ground 0 and one place; where it needs another place, sheet 1 has it. */
    private interface Call {
        int ask(BentGrounds x, int s);
    }

    private record Row(String name, Call call) {
    }

    private static final List<Row> ROWS = List.of(
            new Row("value", (x, s) -> x.value(0, s)),
            new Row("tangent", (x, s) -> x.tangent(0, s, 6)),
            new Row("tangent, to a missing sheet", (x, s) -> x.tangent(0, s, 5)),
            new Row("tangent, to itself", (x, s) -> x.tangent(0, s, s)),
            new Row("line, the first", (x, s) -> x.line(0, s, 1)),
            new Row("line, the second", (x, s) -> x.line(0, 1, s)),
            new Row("cut", (x, s) -> x.cut(0, s)),
            new Row("touches", (x, s) -> x.touches(0, s)),
            new Row("lines", (x, s) -> x.lines(0, s)));

    public static void main(String[] args) {
        for (Row row : ROWS) {
            sizes(row);
            numbers(row);
            nought(row);
            orderOfFindings(row);
        }
        ordersOfTwoPlaces();
        onePlaceAlone();
        onePlaceThatIsNot();
        tangentLeavesOthers();
        lineToldLeaves();
        CHECK.end();
    }

    private static BentGrounds fresh() {
        BentGrounds x = new BentGrounds();
        Check.ground(x, 0, 1, 2, -1, 3, 4, -2, 1, -3, 2, -4);
        Check.lay(x, 1, 3, -1, 2, 1);
        Check.lay(x, 6, 9, 8, 7);
        Check.lay(x, 3, 1, 2, 0, -1);
        Check.lay(x, 4, 2, 0, 1, 1);
        x.line(0, 3, 4);
        return x;
    }

    private static void fits(Row row, int... numbers) {
        BentGrounds x = fresh();
        Check.lay(x, 0, numbers);
        int answer = row.call.ask(x, 0);
        CHECK.due(row.name + java.util.Arrays.toString(numbers) + " is taken", answer >= 0 ? 1 : answer, 1);
        CHECK.due(row.name + ": no finding", x.finding(), 0);
    }

    private static void finds(Row row, int found, int... numbers) {
        BentGrounds x = fresh();
        Check.lay(x, 0, numbers);
        CHECK.finds(row.name + java.util.Arrays.toString(numbers), x, () -> row.call.ask(x, 0), found);
        // 1 + 16 - 4 and twice 4 - 3 - 2 at (1, 2, 0, -1)
        CHECK.tells("the latest line stays", x, x.lineTold(0), 11);
    }

    private static void sizes(Row row) {
        for (int size = 0; size <= 16; size++) {
            int[] numbers = new int[size];
            for (int i = 0; i < size; i++) {
                numbers[i] = i == 2 ? 0 : 1;
            }
            if (size < 4) {
                finds(row, 5, numbers);
            } else {
                fits(row, numbers);
            }
        }
    }

    private static void numbers(Row row) {
        for (int k = 0; k < 4; k++) {
            for (int v : new int[] {100, -100, 99, -99}) {
                int[] numbers = new int[4];
                numbers[k] = v;
                fits(row, numbers);
                numbers[(k + 1) % 4] = 1;
                fits(row, numbers);
            }
            for (int v : FAR) {
                int[] numbers = {1, 1, 1, 1};
                numbers[k] = v;
                finds(row, 2, numbers);
                int[] alone = new int[4];
                alone[k] = v;
                finds(row, 2, alone);
            }
        }
        for (int v : FAR) {
            fits(row, 1, 0, 0, 0, v, v);
        }
    }

    private static void nought(Row row) {
        finds(row, 4, 0, 0, 0, 0);
        finds(row, 4, 0, 0, 0, 0, 1);
        finds(row, 4, 0, 0, 0, 0, 101, 0, 0, 0, 0, 0, 0, 0, 0, 0, 0, 1);
    }

    /** NOTHING, SIZE, BEYOND, NOUGHT: that which is earlier in this row is told. */
    private static void orderOfFindings(Row row) {
        finds(row, 5, 101);
        finds(row, 5, 0, 0, 0);
        finds(row, 5, 1, 0, -101);
        BentGrounds x = fresh();
        x.drop(0);
        Check.lay(x, 0, 101, 0, 0);
        CHECK.finds(row.name + ": ground missing, too short", x, () -> row.call.ask(x, 0), 1);
        Check.lay(x, 0, 101, 0, 0, 0);
        CHECK.finds(row.name + ": ground missing, beyond", x, () -> row.call.ask(x, 0), 1);
        Check.lay(x, 0, 0, 0, 0, 0);
        CHECK.finds(row.name + ": ground missing, all 0", x, () -> row.call.ask(x, 0), 1);
    }

    private static void ordersOfTwoPlaces() {
        int[][] rows = {{1}, {0, 101, 0, 0}, {0, 0, 0, 0}, {3, -1, 2, 1}};
        int[] found = {5, 2, 4, 4};
        for (int i = 0; i < rows.length; i++) {
            for (int j = 0; j < rows.length; j++) {
                BentGrounds x = fresh();
                Check.lay(x, 0, rows[i]);
                Check.lay(x, 2, rows[j]);
                CHECK.finds("line of rows " + i + " and " + j, x, () -> x.line(0, 0, 2), found[Math.min(i, j)]);
            }
            BentGrounds x = fresh();
            Check.lay(x, 0, rows[i]);
            CHECK.finds("line of row " + i + " and a missing one", x, () -> x.line(0, 0, 5), 1);
            CHECK.finds("line of a missing one and row " + i, x, () -> x.line(0, 5, 0), 1);
        }
    }

    private static void alone(int[] u, int[] v) {
        BentGrounds x = fresh();
        Check.lay(x, 0, u);
        Check.lay(x, 2, v);
        CHECK.finds("multiples", x, () -> x.line(0, 0, 2), 4);
        CHECK.finds("multiples, the other way", x, () -> x.line(0, 2, 0), 4);
        CHECK.finds("one sheet", x, () -> x.line(0, 0, 0), 4);
    }

    private static void onePlaceAlone() {
        alone(new int[] {1, 2, 3, 4}, new int[] {1, 2, 3, 4});
        alone(new int[] {1, 2, 3, 4}, new int[] {-1, -2, -3, -4});
        alone(new int[] {25, -25, 0, 25}, new int[] {-100, 100, 0, -100});
        alone(new int[] {2, 4, 0, 6}, new int[] {3, 6, 0, 9, 7});
        alone(new int[] {100, 0, 0, 0}, new int[] {-1, 0, 0, 0});
        alone(new int[] {0, 0, 0, 1}, new int[] {0, 0, 0, 100});
        alone(new int[] {0, 0, 5, 0}, new int[] {0, 0, -3, 0});
    }

    /** Unlike in one number alone, or in one that the other has not. */
    private static void onePlaceThatIsNot() {
        int[][] pairs = {
            {1, 2, 3, 4, 1, 2, 3, 5}, {1, 2, 3, 4, 1, 2, 4, 4}, {1, 2, 3, 4, 1, 3, 3, 4}, {1, 2, 3, 4, 2, 2, 3, 4},
            {1, 1, 1, 1, 1, 1, 1, -1}, {0, 0, 0, 1, 0, 0, 1, 0}, {0, 0, 0, 1, 0, 0, 1, 1}, {1, 0, 0, 0, 1, 0, 0, 1},
            {0, 1, 0, 0, 1, 0, 0, 0}, {100, 100, 100, 100, 99, 99, 99, 100}, {2, 4, 6, 8, 1, 2, 3, 5},
        };
        for (int[] p : pairs) {
            BentGrounds x = fresh();
            Check.lay(x, 0, p[0], p[1], p[2], p[3]);
            Check.lay(x, 2, p[4], p[5], p[6], p[7]);
            CHECK.due("two places", x.line(0, 0, 2) >= 0 ? 1 : 0, 1);
            CHECK.due("two places, the other way", x.line(0, 2, 0) >= 0 ? 1 : 0, 1);
        }
    }

    /** Anew, four ints: a longer or shorter sheet becomes one of four, and only that one changes. */
    private static void tangentLeavesOthers() {
        for (int size = -1; size <= 16; size++) {
            BentGrounds x = fresh();
            Check.lay(x, 0, 1, 2, 3, 4);
            if (size >= 0) {
                x.sheet(5, size);
            }
            for (int i = 0; i < size; i++) {
                x.lay(5, i, 77);
            }
            CHECK.due("tangent to a sheet of " + size, x.tangent(0, 0, 5), 1);
            int[] want = {14, 8, -6, -5};
            for (int i = 0; i < 4; i++) {
                CHECK.tells("number " + i, x, x.lay(5, i, want[i]), want[i]);
            }
            CHECK.finds("a fifth", x, () -> x.lay(5, 4, 1), 2);
            CHECK.tells("the place stays", x, x.lay(0, 3, 4), 4);
        }
    }

    private static void lineToldLeaves() {
        BentGrounds x = new BentGrounds();
        Check.ground(x, 0, 1, 2, -1, 3, 4, -2, 1, -3, 2, -4);
        Check.lay(x, 0, 1, 0, 0, 0);
        CHECK.finds("a line of one place", x, () -> x.line(0, 0, 0), 4);
        CHECK.refuses("no line was yet that was not refused", x, () -> x.lineTold(0), BentGrounds.STATE);
        CHECK.refuses("nor is 3 told", x, () -> x.lineTold(3), BentGrounds.BAD);
        Check.lay(x, 1, 0, 1, 0, 0);
        x.line(0, 0, 1);
        CHECK.tells("A", x, x.lineTold(0), 1);
        CHECK.tells("B", x, x.lineTold(1), 2);
        CHECK.tells("C", x, x.lineTold(2), 4);
        x.line(0, 1, 0);
        CHECK.tells("A, the latest", x, x.lineTold(0), 4);
        CHECK.tells("C, the latest", x, x.lineTold(2), 1);
    }
}
