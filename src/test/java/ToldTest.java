/** Promises 35 to 41: asked, upper, lower, count, finding, findings, digest. */
public final class ToldTest {
    private static final Check CHECK = new Check("ToldTest");

    public static void main(String[] args) {
        asked();
        upperLower();
        count();
        findings();
        digest();
        constants();
        CHECK.end();
    }

    private static void asked() {
        BentGrounds x = new BentGrounds();
        CHECK.due("asked() before", x.asked(), 0);
        Check.squares(x, 0, 1, 2, 3, -4);
        Check.lay(x, 0, 1, 1, 1, 1);
        Check.lay(x, 1, 2, 1, 0, 1);
        x.lay(1, 1, 1);
        CHECK.due("by lay()", x.asked(), 1);
        x.table(0, 1, 1);
        CHECK.due("by table()", x.asked(), 2);
        x.told(0, 9);
        CHECK.due("by told()", x.asked(), 3130);
        x.value(0, 1);
        CHECK.due("by value()", x.asked(), 2);
        x.line(0, 0, 1);
        CHECK.due("not by line()", x.asked(), 2);
        x.lineTold(1);
        CHECK.due("by lineTold()", x.asked(), 0);
        x.form(0, 0);
        CHECK.due("not by form()", x.asked(), 0);
        x.formTold(1);
        CHECK.due("by formTold()", x.asked(), -96);
        x.shared(0, 0, 1);
        x.sheet(3, 2);
        x.cut(0, 0);
        x.middle(0, 0);
        x.rational(0, 0, 0);
        x.tangent(0, 0, 2);
        x.count(0);
        x.mark(0, 3);
        CHECK.due("not by others", x.asked(), -96);
        x.between(0, 0, 2);
        CHECK.due("by between(), SPENT", x.asked(), 13);
        Check.squares(x, 1, 0, 0, 1, 0);
        x.shared(1, 1, 1);
        x.place(8, 0);
        CHECK.due("by place()", x.asked(), 1);
        x.place(9, 0);
        x.lay(1, 4, 4);
        x.told(0, 10);
        CHECK.due("not by NONE, FINDING, BAD", x.asked(), 1);
    }

    private static void upperLower() {
        BentGrounds x = new BentGrounds();
        CHECK.due("upper() before", x.upper(), 0);
        CHECK.due("lower() before", x.lower(), 1);
        Check.ground(x, 0, 4, 0, 0, 2, -4, 0, 0, 1, 0, 0);
        CHECK.fraction("by middle()", x, x.middle(0, 0), 1, -1, 2);
        CHECK.refuses("middle(0, 3)", x, () -> x.middle(0, 3), BentGrounds.BAD);
        Check.squares(x, 1, 3, 3, 1, 1);
        Check.squares(x, 2, 2, 2, 0, 0);
        CHECK.fraction("by rational()", x, x.rational(1, 2, 0), 2, -2, 3);
        CHECK.refuses("rational(1, 2, 2)", x, () -> x.rational(1, 2, 2), BentGrounds.NONE);
        CHECK.fraction("0 by 1", x, x.middle(0, 1), 1, 0, 1);
    }

    private static void countsAre(BentGrounds x, int... want) {
        for (int what = 0; what < 5; what++) {
            CHECK.due("count(" + what + ")", x.count(what), want[what]);
        }
    }

    private static void count() {
        BentGrounds x = new BentGrounds();
        countsAre(x, 0, 0, 0, 0, 0);
        Check.squares(x, 0, 1, 1, 1, -1);
        Check.squares(x, 1, -1, -1, -1, 1);
        Check.squares(x, 2, 1, 1, -1, -1);
        Check.squares(x, 3, 1, 1, -1, 0);
        Check.squares(x, 4, 1, 1, 0, 0);
        Check.squares(x, 5, 1, 0, 0, 0);
        Check.squares(x, 6, 1, 1, 1, 1);
        countsAre(x, 1, 7, 2, 1, 3);
        x.sheet(0, 0);
        x.drop(0);
        x.drop(4);
        countsAre(x, 2, 5, 1, 1, 2);
        Check.squares(x, 1, 1, 1, 1, 1);
        x.tear(0);
        countsAre(x, 1, 5, 0, 1, 2);
        CHECK.refuses("count(5)", x, () -> x.count(5), BentGrounds.BAD);
        CHECK.refuses("count(-1)", x, () -> x.count(-1), BentGrounds.BAD);
    }

    private static void findings() {
        BentGrounds x = new BentGrounds();
        CHECK.due("finding() before", x.finding(), 0);
        for (int f = 1; f <= 5; f++) {
            CHECK.due("findings(" + f + ") before", x.findings(f), 0);
        }
        CHECK.refuses("findings(0)", x, () -> x.findings(0), BentGrounds.BAD);
        CHECK.refuses("findings(6)", x, () -> x.findings(6), BentGrounds.BAD);
        CHECK.refuses("findings(-1)", x, () -> x.findings(-1), BentGrounds.BAD);
        x.tear(0);
        x.tear(0);
        x.sheet(0, -1);
        x.sheet(0, 1);
        x.lay(0, 1, 1);
        x.ground(0, 0);
        Check.squares(x, 0, 1, 1, 1, 1);
        x.mark(0, 1);
        x.mark(0, 2);
        x.mark(0, 3);
        int[] want = {0, 2, 1, 3, 1, 1};
        for (int f = 1; f <= 5; f++) {
            CHECK.due("findings(" + f + ")", x.findings(f), want[f]);
        }
        CHECK.due("finding()", x.finding(), 3);
        x.count(0);
        x.drop(0);
        CHECK.due("finding() stays", x.finding(), 3);
    }

    private static void digest() {
        BentGrounds x = new BentGrounds();
        long empty = 17;
        for (int k = 0; k < 20; k++) {
            empty = 31 * empty - 1;
        }
        CHECK.due("digest() of a new one", x.digest(), empty);
        Check.ground(x, 11, 1, 2, 0, 0, 4, 0, 0, -3, 1, 2);
        Check.lay(x, 0, 5, -6);
        x.sheet(1, 0);
        x.tear(7);
        long[] tail = {
            1, 2, 0, 0, 4, 0, 0, -3, 1, 2,
            1, 2, 1, 1, 1, 1, 1, 0, 0, 2111,
            2, 5, -6, 0, -1, -1, -1, -1, -1, -1,
        };
        long sum = 17;
        for (int k = 0; k < 11; k++) {
            sum = 31 * sum - 1;
        }
        for (long v : tail) {
            sum = 31 * sum + v;
        }
        CHECK.due("digest()", x.digest(), sum);
        CHECK.due("digest() again", x.digest(), sum);
        x.lay(0, 1, 6);
        CHECK.due("digest() tells places", x.digest() == sum ? 1 : 0, 0);
        x.lay(0, 1, -6);
        CHECK.due("digest() back", x.digest(), sum);
        x.drop(11);
        x.tear(0);
        x.tear(1);
        CHECK.due("digest() with all missing", x.digest(), empty);
    }

    private static void constants() {
        CHECK.due("BAD", BentGrounds.BAD, -1);
        CHECK.due("FULL", BentGrounds.FULL, -2);
        CHECK.due("FINDING", BentGrounds.FINDING, -3);
        CHECK.due("STATE", BentGrounds.STATE, -4);
        CHECK.due("SPENT", BentGrounds.SPENT, -6);
        CHECK.due("NONE", BentGrounds.NONE, -9);
    }
}
