import java.util.Random;

/** Runs of calls by chance (always the same ones) on the class and on the model; each answer must be the same. */
public final class ModelRunsTest {
    private static final Check CHECK = new Check("ModelRunsTest");
    private static final int CALLS = 500;

    private final BentGrounds x = new BentGrounds();
    private final Model m = new Model();
    private final Random chance;
    private final String name;
    private int calls;

    private ModelRunsTest(int run) {
        chance = new Random(run * 0x9E3779B97F4A7C15L);
        name = "run " + run;
    }

    public static void main(String[] args) {
        int runs = args.length > 0 ? Integer.parseInt(args[0]) : 150;
        int from = args.length > 1 ? Integer.parseInt(args[1]) : 1;
        for (int run = from; run < from + runs; run++) {
            new ModelRunsTest(run).go();
        }
        CHECK.end();
    }

    private void due(String what, long got, long want) {
        calls++;
        CHECK.due(name + ", call " + calls + ": " + what, got, want);
    }

    private int within(int low, int high) {
        return low + chance.nextInt(high - low + 1);
    }

    /** Mostly one that fits, at times one at the edge or far off. */
    private int index(int end) {
        switch (chance.nextInt(40)) {
            case 0:
                return -1;
            case 1:
                return end;
            case 2:
                return chance.nextInt();
            default:
                return chance.nextInt(end);
        }
    }

    private void go() {
        while (calls < CALLS - 30) {
            if (chance.nextInt(4) == 0) {
                tellGround();
            } else {
                ask();
            }
        }
        due("asked()", x.asked(), m.asked());
        due("upper()", x.upper(), m.upper());
        due("lower()", x.lower(), m.lower());
        due("finding()", x.finding(), m.finding());
        for (int f = 0; f <= 6; f++) {
            due("findings(" + f + ")", x.findings(f), m.findings(f));
        }
        for (int what = -1; what <= 5; what++) {
            due("count(" + what + ")", x.count(what), m.count(what));
        }
        due("digest()", x.digest(), m.digest());
    }

    private void sheet(int s, int n) {
        due("sheet(" + s + ", " + n + ")", x.sheet(s, n), m.sheet(s, n));
    }

    private void lay(int s, int i, int v) {
        due("lay(" + s + ", " + i + ", " + v + ")", x.lay(s, i, v), m.lay(s, i, v));
    }

    private void layRow(int s, int[] row) {
        sheet(s, row.length);
        for (int i = 0; i < row.length; i++) {
            if (row[i] != 0) {
                lay(s, i, row[i]);
            }
        }
    }

    private void tellGround() {
        int[] row = new int[10];
        int sort = chance.nextInt(6);
        int bound = sort < 2 ? 1 : sort < 3 ? 2 : 4;
        for (int k = 0; k < 10; k++) {
            row[k] = chance.nextInt(3) == 0 || sort == 5 ? within(-bound, bound) : 0;
        }
        if (sort == 4 || sort == 3) {
            int sign = chance.nextInt(4) == 0 ? -1 : 1;
            for (int k : new int[] {1, 2, 5}) {
                row[k] = chance.nextInt(5) == 0 ? within(-1, 1) : 0;
            }
            for (int k : new int[] {0, 4, 7}) {
                row[k] = sign * within(1, chance.nextBoolean() ? 1 : 4);
            }
            for (int k : new int[] {3, 6, 8}) {
                row[k] = within(-4, 4) * chance.nextInt(2);
            }
            row[9] = within(-4, 4);
        }
        int g = chance.nextInt(7);
        layRow(7, row);
        due("ground(" + g + ", 7)", x.ground(g, 7), m.ground(g, 7));
        int what = index(10);
        due("told(" + g + ", " + what + ")", x.told(g, what), m.told(g, what));
        due("asked()", x.asked(), m.asked());
    }

    private void ask() {
        switch (chance.nextInt(6)) {
            case 0:
                askSheets();
                break;
            case 1:
                askGrounds();
                break;
            case 2:
                askPlaces();
                break;
            case 3:
            case 4:
                askPencil();
                break;
            default:
                askBalls();
                break;
        }
        due("asked()", x.asked(), m.asked());
    }

    private void askSheets() {
        int s = index(8);
        int to = index(8);
        switch (chance.nextInt(6)) {
            case 0:
                sheet(s, within(-1, 17));
                break;
            case 1:
                due("tear(" + s + ")", x.tear(s), m.tear(s));
                break;
            case 2:
                int i = index(4);
                int j = index(4);
                int n = index(5);
                due("copy", x.copy(s, i, to, j, n), m.copy(s, i, to, j, n));
                break;
            case 3:
                int g = index(12);
                due("ground(" + g + ", " + s + ")", x.ground(g, s), m.ground(g, s));
                break;
            default:
                lay(s, index(10), chance.nextInt(3) == 0 ? chance.nextInt() : within(-5, 5));
                break;
        }
    }

    private void askGrounds() {
        int g = index(8);
        int i = index(4);
        int j = index(4);
        int k = within(-3, 3);
        switch (chance.nextInt(8)) {
            case 0:
                if (chance.nextInt(3) == 0) {
                    due("drop(" + g + ")", x.drop(g), m.drop(g));
                }
                break;
            case 1:
                due("table", x.table(g, i, j), m.table(g, i, j));
                break;
            case 2:
                int kind = within(0, 5);
                due("mark(" + g + ", " + kind + ")", x.mark(g, kind), m.mark(g, kind));
                break;
            case 3:
                due("turn(" + g + ")", x.turn(g), m.turn(g));
                break;
            case 4:
                due("swap(" + g + ", " + i + ", " + j + ")", x.swap(g, i, j), m.swap(g, i, j));
                break;
            case 5:
                int h = index(8);
                due("same(" + g + ", " + h + ")", x.same(g, h), m.same(g, h));
                due("alike(" + g + ", " + h + ")", x.alike(g, h), m.alike(g, h));
                break;
            default:
                due("shear(" + g + ", " + i + ", " + j + ", " + k + ")", x.shear(g, i, j, k), m.shear(g, i, j, k));
                break;
        }
    }

    private int[] somePlace() {
        int[] row = new int[chance.nextInt(30) == 0 ? 3 : chance.nextInt(9) == 0 ? 6 : 4];
        int bound = chance.nextInt(4) == 0 ? chance.nextInt(12) == 0 ? 101 : 100 : 2;
        for (int k = 0; k < row.length; k++) {
            row[k] = within(-bound, bound);
        }
        return row;
    }

    private void askPlaces() {
        int g = index(7);
        int s = within(0, 3);
        int t = within(0, 3);
        int i = index(3);
        if (chance.nextInt(2) == 0) {
            layRow(s, somePlace());
        }
        switch (chance.nextInt(7)) {
            case 0:
                due("value(" + g + ", " + s + ")", x.value(g, s), m.value(g, s));
                break;
            case 1:
                int to = index(8);
                due("tangent(" + g + ", " + s + ", " + to + ")", x.tangent(g, s, to), m.tangent(g, s, to));
                break;
            case 2:
                due("line(" + g + ", " + s + ", " + t + ")", x.line(g, s, t), m.line(g, s, t));
                due("lineTold(" + i + ")", x.lineTold(i), m.lineTold(i));
                break;
            case 3:
                due("cut(" + g + ", " + s + ")", x.cut(g, s), m.cut(g, s));
                break;
            case 4:
                due("touches(" + g + ", " + s + ")", x.touches(g, s), m.touches(g, s));
                break;
            case 5:
                due("lines(" + g + ", " + s + ")", x.lines(g, s), m.lines(g, s));
                break;
            default:
                due("middle(" + g + ", " + i + ")", x.middle(g, i), m.middle(g, i));
                due("upper()", x.upper(), m.upper());
                due("lower()", x.lower(), m.lower());
                break;
        }
    }

    private void askPencil() {
        int g = index(7);
        int h = index(7);
        String pair = "(" + g + ", " + h + ")";
        switch (chance.nextInt(5)) {
            case 0:
                due("form" + pair, x.form(g, h), m.form(g, h));
                int k = index(5);
                due("formTold(" + k + ")", x.formTold(k), m.formTold(k));
                break;
            case 1:
                due("roots" + pair, x.roots(g, h), m.roots(g, h));
                break;
            case 2:
                due("pattern" + pair, x.pattern(g, h), m.pattern(g, h));
                break;
            case 3:
                int i = within(-1, 4);
                due("rational" + pair + " " + i, x.rational(g, h, i), m.rational(g, h, i));
                due("upper()", x.upper(), m.upper());
                due("lower()", x.lower(), m.lower());
                break;
            default:
                int n = chance.nextInt(20) == 0 ? within(0, 9) : within(1, 5);
                due("between" + pair + " " + n, x.between(g, h, n), m.between(g, h, n));
                break;
        }
    }

    private void askBalls() {
        int g = index(7);
        int h = index(7);
        int n = chance.nextInt(8) == 0 ? within(-1, 11) : within(0, 3);
        switch (chance.nextInt(4)) {
            case 0:
                due("shared(" + g + ", " + h + ", " + n + ")", x.shared(g, h, n), m.shared(g, h, n));
                break;
            case 1:
                int k = index(7);
                due("shared3", x.shared3(g, h, k, n), m.shared3(g, h, k, n));
                int i = index(6);
                int which = index(3);
                due("place(" + i + ", " + which + ")", x.place(i, which), m.place(i, which));
                break;
            case 2:
                due("apart(" + g + ", " + h + ")", x.apart(g, h), m.apart(g, h));
                break;
            default:
                int s = within(0, 3);
                if (chance.nextInt(2) == 0) {
                    layRow(s, new int[] {within(-2, 2), within(-2, 2), within(-2, 2)});
                }
                int steps = chance.nextInt(10) == 0 ? within(-1, 21) : within(0, 4);
                due("first(" + g + ", " + h + ", " + s + ", " + steps + ")", x.first(g, h, s, steps), m.first(g, h, s, steps));
                break;
        }
    }
}
