/** Promise 7: setDay. */
public final class SetDayTest {
    public static void main(String[] args) {
        Checks c = new Checks();
        springBefore(c);
        theCalendarComesAgain(c);
        wrongOnes(c);
        c.end();
    }

    private static void springBefore(Checks c) {
        PaddyTerraces x = new PaddyTerraces();
        c.due("setDay(0, 60, 400, 20)", x.setDay(0, 60, 400, 20), 60);
        c.due("setDay(0, 0, 0, 0)", x.setDay(0, 0, 0, 0), 400);
        c.due("setDay(29, 1, 2, 3)", x.setDay(29, 1, 2, 3), 60);
        c.due("setDay(29, 1, 7, 3)", x.setDay(29, 1, 7, 3), 2);
        c.due("weather(0, 1)", x.weather(0, 1), 0);
        c.due("weather(28, 1)", x.weather(28, 1), 60);
        c.due("weather(29, 0)", x.weather(29, 0), 1);
        c.due("weather(29, 1)", x.weather(29, 1), 7);
        c.due("weather(29, 2)", x.weather(29, 2), 3);
    }

    /** Rain on the calendar's first and last day: on day 1, 30 and 31, and on no other up to 59. */
    private static void theCalendarComesAgain(Checks c) {
        PaddyTerraces x = Slopes.withoutSpring(2, 2);
        Slopes.close(x, 1, 1);
        x.setDay(0, 10, 0, 0);
        x.setDay(29, 5, 0, 0);
        x.pass(1);
        c.due("day 1: field(1, 1, 0)", x.field(1, 1, 0), 10);
        x.pass(28);
        c.due("day 29: field(1, 1, 0)", x.field(1, 1, 0), 0);
        x.pass(1);
        c.due("day 30: field(1, 1, 0)", x.field(1, 1, 0), 5);
        x.pass(1);
        c.due("day 31: field(1, 1, 0)", x.field(1, 1, 0), 15);
        x.pass(28);
        c.due("day 59: field(1, 1, 0)", x.field(1, 1, 0), 0);
        x.pass(1);
        c.due("day 60: field(1, 1, 0)", x.field(1, 1, 0), 5);
    }

    private static void wrongOnes(Checks c) {
        PaddyTerraces x = new PaddyTerraces();
        int[] noDays = {-1, 30, Integer.MAX_VALUE, Integer.MIN_VALUE};
        for (int day : noDays) {
            c.dueIndex("setDay(" + day + ", 0, 0, 0)", x, () -> x.setDay(day, 0, 0, 0));
            c.dueIndex("setDay(" + day + ", 61, 401, 21)", x, () -> x.setDay(day, 61, 401, 21));
        }
        int[][] wrong = {{-1, 0, 0}, {61, 0, 0}, {0, -1, 0}, {0, 401, 0}, {0, 0, -1}, {0, 0, 21},
            {Integer.MAX_VALUE, 0, 0}, {0, Integer.MIN_VALUE, 0}, {0, 0, Integer.MAX_VALUE}};
        for (int[] bad : wrong) {
            c.dueArgument("setDay(5, " + bad[0] + ", " + bad[1] + ", " + bad[2] + ")", x,
                () -> x.setDay(5, bad[0], bad[1], bad[2]));
        }
    }
}
