/** Promise 14: foresee. */
public final class ForeseeTest {
    public static void main(String[] args) {
        Checks c = new Checks();
        whatComes(c);
        foreseenComesTrue(c);
        allThatIsSetCounts(c);
        theLastDay(c);
        wrongOnes(c);
        c.end();
    }

    private static void whatComes(Checks c) {
        PaddyTerraces x = Slopes.fiveDeep();
        x.plant(0, 0, 20);
        x.plant(0, 1, 0);
        x.pass(2);
        long before = x.digest();
        c.due("foresee(1, 0)", x.foresee(1, 0), 2);
        c.due("foresee(1, 1)", x.foresee(1, 1), 6 + 6);
        // The lower fields had 20 and 15 + 25 of which 10 went out; on day 3 they have 25 + 25, of which 20 go out.
        c.due("count(5)", x.count(5), 2 * 10);
        c.due("foresee(1, 2)", x.foresee(1, 2), 2 * 20);
        c.due("foresee(1, 3)", x.foresee(1, 3), 2 * 5 + 2 * 25);
        c.due("foresee(20, 0)", x.foresee(20, 0), 2);
        c.due("foresee(20, 1)", x.foresee(20, 1), 44 + 44);
        c.due("foresee(20, 2)", x.foresee(20, 2), 2 * 20 * 20);
        c.due("digest() after it", x.digest(), before);
    }

    private static void foreseenComesTrue(Checks c) {
        for (int days = 1; days <= 20; days++) {
            PaddyTerraces x = Slopes.fiveDeep();
            x.setDay(7, 60, 400, 0);
            x.setDay(12, 0, 0, 20);
            x.plant(0, 0, 20);
            x.plant(1, 0, 5);
            x.plant(1, 1, 20);
            x.pass(1);
            int crops = x.foresee(days, 0);
            int hardness = x.foresee(days, 1);
            int brook = x.foresee(days, 2);
            int depths = x.foresee(days, 3);
            int before = x.count(5);
            c.due("pass(" + days + ")", x.pass(days), crops);
            c.due("hardness then", x.field(0, 0, 7) + x.field(1, 0, 7) + x.field(1, 1, 7), hardness);
            c.due("brook then", x.count(5) - before, brook);
            c.due("depths then", x.count(4), depths);
        }
    }

    /** Of 100, 80 come to the left column by its share: 40 go out to the right, 20 of what is left spill. */
    private static void allThatIsSetCounts(Checks c) {
        PaddyTerraces x = new PaddyTerraces();
        x.lay(2, 2);
        x.setShare(0, 4);
        x.setField(0, 0, 20, 0);
        x.setField(1, 1, 120, 0);
        x.moveStone(1, 1, 120);
        x.turn(0, 0, 1);
        x.setDay(0, 1, 100, 0);
        // (0, 0): 81, 40 out to (1, 1), 21 spill, 10 to the brook; (0, 1): 21 and 11, 2 out, 2 lost; (1, 0): 1, lost.
        c.due("foresee(1, 3)", x.foresee(1, 3), 20 + 28 + 0 + (1 + 40 + 2));
        c.due("foresee(1, 2)", x.foresee(1, 2), 10);

        PaddyTerraces dry = Slopes.withoutSpring(2, 2);
        dry.plant(1, 1, 20);
        dry.pass(4);
        c.due("foresee(1, 0) of a crop dry for 4 days", dry.foresee(1, 0), 0);
        PaddyTerraces drowned = Slopes.withoutSpring(2, 2);
        Slopes.close(drowned, 0, 0);
        drowned.plant(0, 0, 0);
        Slopes.passOne(drowned, 60, 0, 0);
        drowned.pass(2);
        c.due("foresee(1, 0) of a crop drowned for 3 days", drowned.foresee(1, 0), 0);
    }

    private static void theLastDay(Checks c) {
        PaddyTerraces x = new PaddyTerraces();
        for (int sixty = 0; sixty < 33; sixty++) {
            x.pass(60);
        }
        c.due("foresee(20, 0) on day 1980", x.foresee(20, 0), 0);
        x.pass(1);
        c.dueState("foresee(20, 0) on day 1981", x, () -> x.foresee(20, 0));
        c.due("foresee(19, 0) on day 1981", x.foresee(19, 0), 0);
        x.pass(19);
        c.dueState("foresee(1, 3) on day 2000", x, () -> x.foresee(1, 3));
        c.dueIndex("foresee(1, 4) on day 2000", x, () -> x.foresee(1, 4));
        c.dueArgument("foresee(21, 4) on day 2000", x, () -> x.foresee(21, 4));
    }

    private static void wrongOnes(Checks c) {
        PaddyTerraces x = Slopes.fiveDeep();
        int[] wrongDays = {0, 21, -1, Integer.MAX_VALUE, Integer.MIN_VALUE};
        for (int days : wrongDays) {
            c.dueArgument("foresee(" + days + ", 0)", x, () -> x.foresee(days, 0));
            c.dueArgument("foresee(" + days + ", -1)", x, () -> x.foresee(days, -1));
        }
        int[] wrongNumbers = {-1, 4, Integer.MAX_VALUE, Integer.MIN_VALUE};
        for (int what : wrongNumbers) {
            c.dueIndex("foresee(1, " + what + ")", x, () -> x.foresee(1, what));
            c.dueIndex("foresee(20, " + what + ")", x, () -> x.foresee(20, what));
        }
    }
}
