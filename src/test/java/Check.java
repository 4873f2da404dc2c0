/** Counts the answers that are not as due, and ends a test with exit code 1 if there was one. */
final class Check {
    private final String name;
    private int asked;
    private int wrong;

    Check(String name) {
        this.name = name;
    }

    void due(String what, long got, long want) {
        asked++;
        if (got != want) {
            wrong++;
            if (wrong <= 40) {
                System.out.println(name + ": " + what + " answered " + got + ", due is " + want);
            }
        }
    }

    void end() {
        System.out.println(name + ": " + asked + " answers, " + wrong + " not as due");
        if (wrong != 0 || asked == 0) {
            System.exit(1);
        }
    }

    /** A refusal with a FINDING, which must be the latest one and counted once more, and change no more. */
    void finds(String what, BentGrounds x, java.util.function.IntSupplier call, int found) {
        long digest = x.digest();
        int asked = x.asked();
        long upper = x.upper();
        long lower = x.lower();
        int before = x.findings(found);
        due(what, call.getAsInt(), BentGrounds.FINDING);
        due(what + ": finding()", x.finding(), found);
        due(what + ": findings()", x.findings(found), before + 1);
        stays(what, x, digest, asked, upper, lower);
    }

    /** A refusal that is no FINDING, or NONE: nothing at all changes. */
    void refuses(String what, BentGrounds x, java.util.function.IntSupplier call, int answer) {
        long digest = x.digest();
        int asked = x.asked();
        long upper = x.upper();
        long lower = x.lower();
        int finding = x.finding();
        int[] findings = new int[6];
        for (int f = 1; f <= 5; f++) {
            findings[f] = x.findings(f);
        }
        due(what, call.getAsInt(), answer);
        due(what + ": finding()", x.finding(), finding);
        for (int f = 1; f <= 5; f++) {
            due(what + ": findings(" + f + ")", x.findings(f), findings[f]);
        }
        stays(what, x, digest, asked, upper, lower);
    }

    private void stays(String what, BentGrounds x, long digest, int asked, long upper, long lower) {
        due(what + ": digest()", x.digest(), digest);
        due(what + ": asked()", x.asked(), asked);
        due(what + ": upper()", x.upper(), upper);
        due(what + ": lower()", x.lower(), lower);
    }

    /** A call that answers 1 and tells a number by asked(). */
    void tells(String what, BentGrounds x, int answer, int want) {
        due(what, answer, 1);
        due(what + ": asked()", x.asked(), want);
    }

    void fraction(String what, BentGrounds x, int answer, int wantAnswer, long upper, long lower) {
        due(what, answer, wantAnswer);
        due(what + ": upper()", x.upper(), upper);
        due(what + ": lower()", x.lower(), lower);
    }

    static void lay(BentGrounds x, int s, int... numbers) {
        x.sheet(s, numbers.length);
        for (int i = 0; i < numbers.length; i++) {
            x.lay(s, i, numbers[i]);
        }
    }

    /** A ground by its ten numbers, told by way of sheet 7. */
    static int ground(BentGrounds x, int g, int... numbers) {
        lay(x, 7, numbers);
        return x.ground(g, 7);
    }

    /** A ground of four squares alone. */
    static int squares(BentGrounds x, int g, int xx, int yy, int zz, int ww) {
        return ground(x, g, xx, 0, 0, 0, yy, 0, 0, zz, 0, ww);
    }

    /** A round ball: xx, yy, zz are 1, its middle is (p, q, r), ww is told. */
    static int round(BentGrounds x, int g, int p, int q, int r, int ww) {
        return ground(x, g, 1, 0, 0, -p, 1, 0, -q, 1, -r, ww);
    }
}
