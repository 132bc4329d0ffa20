/** Promise 2: the boundaries of lay. */
public final class P02LayBoundsTest {
    public static void main(String[] args) {
        sentences().run();
    }

    static Sentences sentences() {
        Sentences s = Sentences.ofPromise(2);
        s.test("Lays a new slope, on day 0", P02LayBoundsTest::laysOnDay0);
        s.test("all is as at first but the calendar, which stays", P02LayBoundsTest::allIsAsAtFirstButTheCalendar);
        s.test("Returns the number of fields.", P02LayBoundsTest::returnsTheNumberOfFields);
        s.test("if h or w is not 2 to 8", P02LayBoundsTest::refusedIfHOrWIsNot2To8);
        return s;
    }

    private static void laysOnDay0(Checks c) {
        int[] days = {0, 1, 30, 2000};
        for (int day : days) {
            PaddyTerraces x = Slopes.onDay(day);
            x.setDay(0, 9, 0, 0);
            x.lay(2, 2);
            c.due("laid on day " + day + ": count(2)", x.count(2), 0);
            x.pass(1);
            c.due("laid on day " + day + ": count(2) a day later", x.count(2), 1);
            c.due("laid on day " + day + ": the calendar's day 0 comes first", x.field(1, 1, 0), 9 - 2);
            c.due("laid on day " + day + ": pass(60)", x.pass(60), 0);
        }
    }

    private static void allIsAsAtFirstButTheCalendar(Checks c) {
        for (int[] size : Slopes.SIZES) {
            dueAsAtFirst(c, size[0], size[1]);
        }
        c.dueSame("laid 4 by 4", () -> laidAnew(4, 4), () -> {
            PaddyTerraces x = new PaddyTerraces();
            Slopes.setBusyCalendar(x);
            return x;
        });
        PaddyTerraces x = laidAnew(2, 2);
        c.due("the calendar's first day: weather(0, 2)", x.weather(0, 2), 0);
        c.due("the calendar's last day: weather(29, 0)", x.weather(29, 0), 60);
        c.due("the calendar's last day: weather(29, 1)", x.weather(29, 1), 400);
        c.due("the calendar's last day: weather(29, 2)", x.weather(29, 2), 20);
    }

    private static void dueAsAtFirst(Checks c, int h, int w) {
        c.dueSame("laid " + h + " by " + w, () -> laidAnew(h, w), () -> withBusyCalendar(h, w));
        c.dueSame("laid " + h + " by " + w + " on the largest slope", () -> {
            PaddyTerraces x = Slopes.busyOfSize(8, 8);
            x.lay(h, w);
            return x;
        }, () -> withBusyCalendar(h, w));
        c.dueSame("laid small and then " + h + " by " + w, () -> {
            PaddyTerraces x = Slopes.busyOfSize(h, w);
            x.lay(2, 2);
            x.lay(h, w);
            return x;
        }, () -> withBusyCalendar(h, w));
    }

    private static PaddyTerraces laidAnew(int h, int w) {
        PaddyTerraces x = Slopes.busy();
        x.lay(h, w);
        return x;
    }

    private static PaddyTerraces withBusyCalendar(int h, int w) {
        PaddyTerraces x = Slopes.ofSize(h, w);
        Slopes.setBusyCalendar(x);
        return x;
    }

    private static void returnsTheNumberOfFields(Checks c) {
        PaddyTerraces x = new PaddyTerraces();
        c.due("lay(2, 2)", x.lay(2, 2), 4);
        c.due("lay(8, 8)", x.lay(8, 8), 64);
        c.due("lay(2, 8)", x.lay(2, 8), 16);
        c.due("lay(8, 2)", x.lay(8, 2), 16);
        c.due("lay(2, 2) again", x.lay(2, 2), 4);
    }

    private static void refusedIfHOrWIsNot2To8(Checks c) {
        for (int[] size : Slopes.SIZES) {
            PaddyTerraces x = Slopes.busy();
            x.lay(size[0], size[1]);
            c.dueCounts("lay(" + size[0] + ", " + size[1] + ")", x, size[0], size[1], 0, 0, 0, 0, 0, 0, 0);
        }
        int[][] wrong = {{1, 2}, {2, 1}, {1, 8}, {8, 1}, {9, 2}, {2, 9}, {9, 8}, {8, 9}, {1, 1}, {9, 9}, {0, 0},
            {0, 8}, {8, 0}, {-2, -2}, {-2, 8}, {8, -2}, {4, 16}, {16, 4}, {65536, 65536},
            {Integer.MAX_VALUE, 2}, {2, Integer.MAX_VALUE}, {Integer.MIN_VALUE, 8}, {8, Integer.MIN_VALUE}};
        for (int[] size : wrong) {
            c.refusedArgument("lay(" + size[0] + ", " + size[1] + ")", Slopes::busy, x -> x.lay(size[0], size[1]));
        }
        c.refusedArgument("lay(1, 1) on the first slope", PaddyTerraces::new, x -> x.lay(1, 1));
    }
}
