/** The runs of calls that README.md shows, with the answers that it tells. */
public final class ReadmeTest {
    private static final Check CHECK = new Check("ReadmeTest");

    public static void main(String[] args) {
        BentGrounds x = new BentGrounds();
        ball(x);
        twoBalls(x);
        planeAndRefusal(x);
        CHECK.end();
    }

    private static void ball(BentGrounds x) {
        CHECK.due("sheet(0, 10)", x.sheet(0, 10), 10);
        CHECK.tells("lay(0, 0, 1)", x, x.lay(0, 0, 1), 0);
        CHECK.tells("lay(0, 4, 1)", x, x.lay(0, 4, 1), 0);
        CHECK.tells("lay(0, 7, 1)", x, x.lay(0, 7, 1), 0);
        CHECK.tells("lay(0, 9, -1)", x, x.lay(0, 9, -1), 0);
        CHECK.due("ground(0, 0)", x.ground(0, 0), 3);
        CHECK.tells("told(0, 9)", x, x.told(0, 9), 3130);
    }

    private static void twoBalls(BentGrounds x) {
        x.lay(0, 3, -2);
        CHECK.tells("lay(0, 9, 3)", x, x.lay(0, 9, 3), -1);
        CHECK.due("ground(1, 0)", x.ground(1, 0), 3);
        CHECK.fraction("middle(1, 0)", x, x.middle(1, 0), 1, 2, 1);
        CHECK.due("pattern(0, 1)", x.pattern(0, 1), 22);
        CHECK.fraction("rational(0, 1, 0)", x, x.rational(0, 1, 0), 2, -1, 1);
        CHECK.due("apart(0, 1)", x.apart(0, 1), 1);
        CHECK.due("shared(0, 1, 2)", x.shared(0, 1, 2), 1);
        CHECK.tells("place(0, 0)", x, x.place(0, 0), 1);
    }

    private static void planeAndRefusal(BentGrounds x) {
        x.sheet(1, 4);
        x.lay(1, 0, 1);
        CHECK.tells("lay(1, 3, -1)", x, x.lay(1, 3, -1), 0);
        CHECK.due("touches(0, 1)", x.touches(0, 1), 1);
        CHECK.due("cut(0, 1)", x.cut(0, 1), 20);
        CHECK.due("cut(2, 1)", x.cut(2, 1), BentGrounds.FINDING);
        CHECK.due("finding()", x.finding(), 1);
        CHECK.due("cut(12, 1)", x.cut(12, 1), BentGrounds.BAD);
        CHECK.due("finding() still", x.finding(), 1);
    }
}
