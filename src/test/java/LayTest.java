/** Promise 2: lay. */
public final class LayTest {
    public static void main(String[] args) {
        Checks c = new Checks();
        sizes(c);
        allIsAsAtFirstButTheCalendar(c);
        wrongSizes(c);
        c.end();
    }

    private static void sizes(Checks c) {
        PaddyTerraces x = new PaddyTerraces();
        c.due("lay(2, 2)", x.lay(2, 2), 4);
        c.due("lay(8, 8)", x.lay(8, 8), 64);
        c.due("lay(2, 8)", x.lay(2, 8), 16);
        c.due("count(0) after lay(2, 8)", x.count(0), 2);
        c.due("count(1) after lay(2, 8)", x.count(1), 8);
        c.due("lay(8, 3)", x.lay(8, 3), 24);
        c.due("count(0) after lay(8, 3)", x.count(0), 8);
        c.due("count(1) after lay(8, 3)", x.count(1), 3);
        c.due("field(7, 2, 1)", x.field(7, 2, 1), 60);
        c.dueIndex("field(7, 3, 1)", x, () -> x.field(7, 3, 1));
    }

    private static void allIsAsAtFirstButTheCalendar(Checks c) {
        PaddyTerraces x = Slopes.fiveDeep();
        x.setDay(29, 60, 400, 20);
        x.setDay(0, 7, 60, 3);
        x.setShare(1, 9);
        x.setField(1, 0, 20, 9);
        x.turn(0, 0, 1);
        x.plant(0, 0, 20);
        x.plant(1, 1, 20);
        x.pass(30);
        x.pass(1);
        c.due("died", x.count(7) > 0 ? 1 : 0, 1);
        c.due("came to the brook", x.count(5) > 0 ? 1 : 0, 1);

        PaddyTerraces y = new PaddyTerraces();
        y.setDay(29, 60, 400, 20);
        y.setDay(0, 7, 60, 3);
        int[][] sizes = {{2, 2}, {8, 8}, {3, 5}};
        for (int[] size : sizes) {
            x.lay(size[0], size[1]);
            y.lay(size[0], size[1]);
            c.due("digest() of a slope laid anew", x.digest(), y.digest());
        }
        x.lay(2, 2);
        int[] counts = {2, 2, 0, 0, 0, 0, 0, 0, 0};
        for (int what = 0; what < counts.length; what++) {
            c.due("laid anew: count(" + what + ")", x.count(what), counts[what]);
        }
        c.dueField("laid anew", x, 0, 0, 0, 60, 2, 30, 0, 0, 0, 0, 0, 0, 0, 0);
        c.dueField("laid anew", x, 1, 0, 0, 60, 2, 30, 0, 0, 0, 0, 0, 0, 0, 0);
        c.due("laid anew: setShare(1, 1)", x.setShare(1, 1), 1);
        c.due("laid anew: weather(29, 1)", x.weather(29, 1), 400);
        c.due("laid anew: weather(0, 0)", x.weather(0, 0), 7);
        x.pass(1);
        c.due("laid anew: the first day has the calendar's day 0", x.field(0, 0, 0), 30 + 7 - 7 - 5);

        PaddyTerraces z = Slopes.fiveDeep();
        z.plant(0, 0, 20);
        z.pass(20);
        c.due("reap(0, 0)", z.reap(0, 0), 16);
        z.lay(2, 2);
        c.due("laid anew: count(6)", z.count(6), 0);
        c.due("laid anew: count(8)", z.count(8), 0);
    }

    private static void wrongSizes(Checks c) {
        PaddyTerraces x = Slopes.fiveDeep();
        x.pass(2);
        int[][] sizes = {{1, 2}, {2, 1}, {9, 2}, {2, 9}, {0, 4}, {4, 0}, {-1, 4}, {4, -4},
            {Integer.MAX_VALUE, 2}, {2, Integer.MIN_VALUE}, {65536, 65536}};
        for (int[] size : sizes) {
            c.dueArgument("lay(" + size[0] + ", " + size[1] + ")", x, () -> x.lay(size[0], size[1]));
        }
    }
}
