import java.util.ArrayList;
import java.util.List;

/**
 * Every call with each of its numbers at both ends of what the document tells, and one farther: BAD ahead of
 * all else, no BAD within or where no limit is told; then every call with each SHEET, GROUND that it needs missing.
 */
public final class NumbersTest {
    private static final Check CHECK = new Check("NumbersTest");
    private static final int LEAST = Integer.MIN_VALUE, GREATEST = Integer.MAX_VALUE;
    private static final int[] SHEET = {0, 7}, GROUND = {0, 11}, LETTER = {0, 3}, ANY = {LEAST, GREATEST};

    private interface Call {
        int ask(BentGrounds x, int[] a);
    }

    /** A call, numbers that fit it, and for each number the least and the greatest that is not BAD. */
    private static final class Row {
        final String name;
        final Call call;
        final int[] fit;
        final int[][] ranges;

        Row(String name, Call call, int[] fit, int[]... ranges) {
            this.name = name;
            this.call = call;
            this.fit = fit;
            this.ranges = ranges;
        }

        int ask(BentGrounds x, int... a) {
            return call.ask(x, a);
        }

        String with(int... a) {
            return name + java.util.Arrays.toString(a);
        }
    }

    private static final List<Row> ROWS = new ArrayList<>();

    public static void main(String[] args) {
        rowsOfSheetsAndGrounds();
        rowsOfPlaces();
        rowsOfPencils();
        CHECK.due("calls with numbers", ROWS.size(), 36);
        for (Row row : ROWS) {
            CHECK.due(row.name + ": a range for each number", row.ranges.length, row.fit.length);
            badNumbers(row);
            numbersThatFit(row);
            missing(row);
        }
        alsoBad();
        CHECK.end();
    }

    private static int[] is(int... v) {
        return v;
    }

    private static void row(String name, Call call, int[] fit, int[]... ranges) {
        ROWS.add(new Row(name, call, fit, ranges));
    }

    private static void rowsOfSheetsAndGrounds() {
        row("sheet", (x, a) -> x.sheet(a[0], a[1]), is(3, 5), SHEET, is(LEAST, 16));
        row("lay", (x, a) -> x.lay(a[0], a[1], a[2]), is(1, 2, 3), SHEET, ANY, ANY);
        row("tear", (x, a) -> x.tear(a[0]), is(2), SHEET);
        row("copy", (x, a) -> x.copy(a[0], a[1], a[2], a[3], a[4]), is(1, 0, 2, 1, 3), SHEET, ANY, SHEET, ANY, ANY);
        row("ground", (x, a) -> x.ground(a[0], a[1]), is(4, 5), GROUND, SHEET);
        row("drop", (x, a) -> x.drop(a[0]), is(6), GROUND);
        row("table", (x, a) -> x.table(a[0], a[1], a[2]), is(1, 2, 3), GROUND, LETTER, LETTER);
        row("told", (x, a) -> x.told(a[0], a[1]), is(1, 2), GROUND, is(0, 9));
        row("mark", (x, a) -> x.mark(a[0], a[1]), is(1, 3), GROUND, is(1, 4));
        row("turn", (x, a) -> x.turn(a[0]), is(1), GROUND);
        row("shear", (x, a) -> x.shear(a[0], a[1], a[2], a[3]), is(1, 0, 3, 1), GROUND, LETTER, LETTER, is(-2, 2));
        row("swap", (x, a) -> x.swap(a[0], a[1], a[2]), is(1, 0, 3), GROUND, LETTER, LETTER);
        row("same", (x, a) -> x.same(a[0], a[1]), is(1, 2), GROUND, GROUND);
        row("alike", (x, a) -> x.alike(a[0], a[1]), is(1, 2), GROUND, GROUND);
        row("count", (x, a) -> x.count(a[0]), is(1), is(0, 4));
        row("findings", (x, a) -> x.findings(a[0]), is(1), is(1, 5));
    }

    private static void rowsOfPlaces() {
        row("value", (x, a) -> x.value(a[0], a[1]), is(1, 2), GROUND, SHEET);
        row("tangent", (x, a) -> x.tangent(a[0], a[1], a[2]), is(1, 2, 3), GROUND, SHEET, SHEET);
        row("line", (x, a) -> x.line(a[0], a[1], a[2]), is(1, 2, 3), GROUND, SHEET, SHEET);
        row("lineTold", (x, a) -> x.lineTold(a[0]), is(1), is(0, 2));
        row("cut", (x, a) -> x.cut(a[0], a[1]), is(1, 2), GROUND, SHEET);
        row("touches", (x, a) -> x.touches(a[0], a[1]), is(1, 2), GROUND, SHEET);
        row("lines", (x, a) -> x.lines(a[0], a[1]), is(1, 2), GROUND, SHEET);
        row("middle", (x, a) -> x.middle(a[0], a[1]), is(1, 2), GROUND, is(0, 2));
    }

    private static void rowsOfPencils() {
        row("form", (x, a) -> x.form(a[0], a[1]), is(1, 2), GROUND, GROUND);
        row("formTold", (x, a) -> x.formTold(a[0]), is(1), is(0, 4));
        row("roots", (x, a) -> x.roots(a[0], a[1]), is(1, 2), GROUND, GROUND);
        row("pattern", (x, a) -> x.pattern(a[0], a[1]), is(1, 2), GROUND, GROUND);
        row("rational", (x, a) -> x.rational(a[0], a[1], a[2]), is(1, 2, 0), GROUND, GROUND, ANY);
        row("between", (x, a) -> x.between(a[0], a[1], a[2]), is(1, 2, 3), GROUND, GROUND, is(1, 8));
        row("apart", (x, a) -> x.apart(a[0], a[1]), is(1, 2), GROUND, GROUND);
        row("first", (x, a) -> x.first(a[0], a[1], a[2], a[3]), is(1, 2, 3, 4), GROUND, GROUND, SHEET, is(0, 20));
        row("shared", (x, a) -> x.shared(a[0], a[1], a[2]), is(1, 2, 3), GROUND, GROUND, is(0, 10));
        row("place", (x, a) -> x.place(a[0], a[1]), is(0, 2), ANY, is(0, 2));
        row("shared3", (x, a) -> x.shared3(a[0], a[1], a[2], a[3]), is(1, 2, 3, 4), GROUND, GROUND, GROUND, is(0, 10));
        row("copy, itself", (x, a) -> x.copy(a[0], a[1], a[0], a[2], a[3]), is(1, 0, 1, 3), SHEET, ANY, ANY, ANY);
    }

    /** All is there: twelve balls, eight sheets that are places, unlike as all their multiples; a line, a form, places. */
    private static BentGrounds full() {
        BentGrounds x = new BentGrounds();
        for (int g = 0; g < 12; g++) {
            Check.round(x, g, g % 3 - 1, g / 3 % 2, g / 6, -1);
        }
        for (int s = 0; s < 8; s++) {
            Check.lay(x, s, s % 2, s / 2 % 2, s / 4, 1);
        }
        x.line(0, 0, 1);
        x.form(0, 1);
        x.shared(0, 0, 1);
        return x;
    }

    private static void badNumbers(Row row) {
        for (int k = 0; k < row.fit.length; k++) {
            for (int v : outside(row.ranges[k])) {
                int[] a = row.fit.clone();
                a[k] = v;
                bad(row, a);
                badWithMore(row, k, v);
            }
        }
    }

    private static void bad(Row row, int[] a) {
        BentGrounds full = full();
        CHECK.refuses(row.with(a), full, () -> row.ask(full, a), BentGrounds.BAD);
        BentGrounds empty = new BentGrounds();
        CHECK.refuses(row.with(a) + ", all missing", empty, () -> row.ask(empty, a), BentGrounds.BAD);
    }

    /** Whatever the other numbers are, that they are BAD or refused otherwise changes nothing. */
    private static void badWithMore(Row row, int k, int v) {
        for (int other = 0; other < row.fit.length; other++) {
            if (other != k) {
                for (int w : is(LEAST, -1, 17, GREATEST)) {
                    int[] a = row.fit.clone();
                    a[k] = v;
                    a[other] = w;
                    bad(row, a);
                }
            }
        }
    }

    private static int[] outside(int[] range) {
        List<Integer> found = new ArrayList<>();
        if (range[0] != LEAST) {
            found.addAll(List.of(LEAST, range[0] - 1));
        }
        if (range[1] != GREATEST) {
            found.addAll(List.of(range[1] + 1, GREATEST));
        }
        int[] values = new int[found.size()];
        for (int i = 0; i < values.length; i++) {
            values[i] = found.get(i);
        }
        return values;
    }

    /** Each number within its range, the others as they fit: never BAD, neither with all there nor with all missing. */
    private static void numbersThatFit(Row row) {
        for (int k = 0; k < row.fit.length; k++) {
            int low = Math.max(row.ranges[k][0], -3);
            int high = Math.min(row.ranges[k][1], 21);
            for (int v = low; v <= high; v++) {
                fits(row, k, v);
            }
            fits(row, k, row.ranges[k][0]);
            fits(row, k, row.ranges[k][1]);
        }
    }

    private static void fits(Row row, int k, int v) {
        int[] a = row.fit.clone();
        a[k] = v;
        boolean pair = row.name.equals("apart") || row.name.equals("first");
        if (pair && a[0] == a[1] || row.name.equals("shear") && a[1] == a[2]) {
            return;
        }
        CHECK.due(row.with(a) + " is not BAD", row.ask(full(), a) == BentGrounds.BAD ? 1 : 0, 0);
        int answer = row.ask(new BentGrounds(), a);
        CHECK.due(row.with(a) + ", all missing, is not BAD", answer == BentGrounds.BAD ? 1 : 0, 0);
    }

    /** Each sheet or ground that is asked of is missing, all the others are there. */
    private static void missing(Row row) {
        if (row.name.equals("sheet")) {
            return;
        }
        for (int k = 0; k < row.fit.length; k++) {
            boolean sheet = row.ranges[k] == SHEET;
            boolean goal = row.name.equals("tangent") && k == 2 || row.name.equals("ground") && k == 0;
            if (!goal && (sheet || row.ranges[k] == GROUND)) {
                for (int v = 0; v <= row.ranges[k][1]; v++) {
                    missingOne(row, k, v, sheet);
                }
            }
        }
    }

    private static void missingOne(Row row, int k, int v, boolean sheet) {
        BentGrounds x = full();
        int[] a = row.fit.clone();
        for (int other = 0; other < a.length; other++) {
            if (other != k && row.ranges[other] == row.ranges[k] && a[other] == v) {
                a[other] = v == 0 ? 1 : 0;
            }
        }
        a[k] = v;
        CHECK.due("it was there", sheet ? x.tear(v) : x.drop(v), 1);
        CHECK.finds(row.with(a) + ", number " + k + " missing", x, () -> row.ask(x, a), 1);
        BentGrounds empty = new BentGrounds();
        CHECK.finds(row.with(a) + ", all missing: once", empty, () -> row.ask(empty, a), 1);
    }

    /** What is BAD though each number alone fits. */
    private static void alsoBad() {
        for (int v = 0; v < 12; v++) {
            int g = v;
            int letter = v % 4;
            for (BentGrounds x : new BentGrounds[] {full(), new BentGrounds()}) {
                CHECK.refuses("apart of one", x, () -> x.apart(g, g), BentGrounds.BAD);
                CHECK.refuses("first of one", x, () -> x.first(g, g, 0, 0), BentGrounds.BAD);
                CHECK.refuses("shear, i as j", x, () -> x.shear(g, letter, letter, 1), BentGrounds.BAD);
                CHECK.refuses("shear by 0, i as j", x, () -> x.shear(g, letter, letter, 0), BentGrounds.BAD);
            }
        }
        BentGrounds full = full();
        CHECK.refuses("first of one, SPENT else", full, () -> full.first(1, 1, 1, 20), BentGrounds.BAD);
    }
}
