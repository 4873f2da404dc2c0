import java.util.Random;
import java.util.TreeMap;

/** Patterns and meetings of many pairs against the model, until each sort of answer has come up. */
public final class PencilModelTest {
    private static final Check CHECK = new Check("PencilModelTest");
    private static final int[] PATTERNS = {0, 4, 6, 13, 22, 25, 31, 55, 112, 115, 121, 211, 1111};

    private final Random chance;
    private final BentGrounds x = new BentGrounds();
    private final Model m = new Model();

    private PencilModelTest(int run) {
        chance = new Random(run * 0x9E3779B97F4A7C15L);
    }

    public static void main(String[] args) {
        int runs = args.length > 0 ? Integer.parseInt(args[0]) : 3000;
        TreeMap<Integer, Integer> patterns = new TreeMap<>();
        TreeMap<Integer, Integer> meetings = new TreeMap<>();
        TreeMap<Integer, Integer> firsts = new TreeMap<>();
        for (int run = 0; run < runs; run++) {
            new PencilModelTest(run).pairs(patterns);
            new PencilModelTest(run).balls(meetings, firsts);
        }
        for (int pattern : PATTERNS) {
            CHECK.due("pattern " + pattern + " has come up", patterns.containsKey(pattern) ? 1 : 0, 1);
        }
        for (int meeting = 0; meeting <= 2; meeting++) {
            CHECK.due("meeting " + meeting + " has come up", meetings.containsKey(meeting) ? 1 : 0, 1);
        }
        for (int first : new int[] {BentGrounds.SPENT, BentGrounds.NONE, 0, 1, 2}) {
            CHECK.due("first " + first + " has come up", firsts.containsKey(first) ? 1 : 0, 1);
        }
        System.out.println("patterns " + patterns + ", meetings " + meetings + ", firsts " + firsts);
        CHECK.end();
    }

    private int within(int low, int high) {
        return low + chance.nextInt(high - low + 1);
    }

    private void tell(int g, int[] ten) {
        Check.lay(x, 7, ten);
        m.sheet(7, 10);
        for (int k = 0; k < 10; k++) {
            m.lay(7, k, ten[k]);
        }
        CHECK.due("ground", x.ground(g, 7), m.ground(g, 7));
    }

    /** A few squares, sheared alike on both grounds: roots that count more often come up. */
    private void pairs(TreeMap<Integer, Integer> patterns) {
        int sort = chance.nextInt(4);
        for (int g = 0; g < 2; g++) {
            int[] ten = new int[10];
            for (int k = 0; k < 10; k++) {
                int bound = sort == 3 ? 4 : 1 + chance.nextInt(2);
                ten[k] = sort == 0 || sort == 1 && chance.nextInt(3) > 0 ? 0 : within(-bound, bound);
            }
            if (sort < 3) {
                for (int k : new int[] {0, 4, 7, 9}) {
                    ten[k] = within(-2, 2);
                }
            }
            if (sort == 0) {
                ten[1] = chance.nextInt(3) == 0 ? 0 : within(-2, 2);
                ten[8] = chance.nextInt(3) == 0 ? 0 : ten[1];
            }
            if (sort == 0 && g == 1 && chance.nextBoolean()) {
                ten = new int[] {0, ten[1], 0, 0, 0, 0, 0, 0, ten[8], 0};
                ten[0] = ten[1] == 0 && ten[8] == 0 ? 1 : 0;
            }
            if (sort == 3 && chance.nextBoolean()) {
                for (int k = 0; k < 10; k++) {
                    ten[k] = chance.nextInt(10) == 0 ? 3 : chance.nextBoolean() ? 4 : -4;
                }
            }
            tell(g, ten);
        }
        for (int k = 0; k < 3; k++) {
            int i = chance.nextInt(4);
            int j = (i + 1 + chance.nextInt(3)) % 4;
            int by = within(-1, 1);
            CHECK.due("shear", x.shear(0, i, j, by), m.shear(0, i, j, by));
            CHECK.due("shear", x.shear(1, i, j, by), m.shear(1, i, j, by));
        }
        for (int g = 0; g < 2; g++) {
            int pattern = x.pattern(g, 1 - g);
            CHECK.due("pattern", pattern, m.pattern(g, 1 - g));
            CHECK.due("roots", x.roots(g, 1 - g), m.roots(g, 1 - g));
            CHECK.due("form", x.form(g, 1 - g), m.form(g, 1 - g));
            for (int i = 0; i < 5; i++) {
                CHECK.due("formTold", x.formTold(i), m.formTold(i));
                CHECK.due("asked", x.asked(), m.asked());
            }
            patterns.merge(pattern, 1, Integer::sum);
        }
    }

    private int[] ball() {
        int[] ten = new int[10];
        int sort = chance.nextInt(3);
        for (int k : new int[] {0, 4, 7}) {
            ten[k] = sort == 0 ? 1 : within(1, 4);
        }
        for (int k : new int[] {1, 2, 5}) {
            ten[k] = sort == 2 ? within(-1, 1) : 0;
        }
        for (int k : new int[] {3, 6, 8}) {
            ten[k] = chance.nextInt(3) == 0 ? within(-4, 4) : within(-2, 2);
        }
        ten[9] = within(-1, 4);
        return ten;
    }

    private void balls(TreeMap<Integer, Integer> meetings, TreeMap<Integer, Integer> firsts) {
        tell(0, ball());
        tell(1, ball());
        if (chance.nextInt(3) == 0) {
            CHECK.due("turn", x.turn(1), m.turn(1));
        }
        int meeting = x.apart(0, 1);
        CHECK.due("apart", meeting, m.apart(0, 1));
        CHECK.due("apart, the other way", x.apart(1, 0), m.apart(1, 0));
        meetings.merge(meeting, 1, Integer::sum);
        x.sheet(0, 3);
        m.sheet(0, 3);
        for (int i = 0; i < 3; i++) {
            int by = chance.nextInt(4) == 0 ? within(-4, 4) : within(-1, 1);
            x.lay(0, i, by);
            m.lay(0, i, by);
        }
        int n = within(0, 5);
        int first = x.first(0, 1, 0, n);
        CHECK.due("first", first, m.first(0, 1, 0, n));
        CHECK.due("first, the other way", x.first(1, 0, 0, n), m.first(1, 0, 0, n));
        firsts.merge(first, 1, Integer::sum);
    }
}
