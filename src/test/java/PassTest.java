/** Promise 10: pass; the steps of a day are in DayWaterTest and DayRiceTest. */
public final class PassTest {
    public static void main(String[] args) {
        Checks c = new Checks();
        daysAndCrops(c);
        theLastDay(c);
        wrongOnes(c);
        c.end();
    }

    private static void daysAndCrops(Checks c) {
        PaddyTerraces x = Slopes.fiveDeep();
        x.plant(0, 0, 10);
        x.plant(0, 1, 10);
        x.plant(1, 0, 10);
        c.due("pass(1)", x.pass(1), 3);
        c.due("count(2)", x.count(2), 1);
        c.due("pass(60)", x.pass(60), x.count(3));
        c.due("count(2)", x.count(2), 61);

        PaddyTerraces y = Slopes.fiveDeep();
        y.plant(0, 0, 10);
        y.plant(0, 1, 10);
        y.plant(1, 0, 10);
        for (int day = 0; day < 61; day++) {
            y.pass(1);
        }
        c.due("digest() after single days", y.digest(), x.digest());
    }

    private static void theLastDay(Checks c) {
        PaddyTerraces x = new PaddyTerraces();
        for (int sixty = 0; sixty < 33; sixty++) {
            x.pass(60);
        }
        c.due("count(2)", x.count(2), 1980);
        c.dueState("pass(21) on day 1980", x, () -> x.pass(21));
        c.dueState("pass(60) on day 1980", x, () -> x.pass(60));
        c.dueArgument("pass(61) on day 1980", x, () -> x.pass(61));
        c.due("pass(19) on day 1980", x.pass(19), 0);
        c.dueState("pass(2) on day 1999", x, () -> x.pass(2));
        c.due("pass(1) on day 1999", x.pass(1), 0);
        c.due("count(2)", x.count(2), 2000);
        c.dueState("pass(1) on day 2000", x, () -> x.pass(1));
        c.dueArgument("pass(0) on day 2000", x, () -> x.pass(0));
        x.lay(2, 2);
        c.due("pass(60) on a new slope", x.pass(60), 0);
        c.due("count(2)", x.count(2), 60);
    }

    private static void wrongOnes(Checks c) {
        PaddyTerraces x = new PaddyTerraces();
        int[] wrong = {0, 61, -1, Integer.MAX_VALUE, Integer.MIN_VALUE};
        for (int days : wrong) {
            c.dueArgument("pass(" + days + ")", x, () -> x.pass(days));
        }
    }
}
