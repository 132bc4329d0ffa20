import java.util.function.Consumer;

/** Slopes that several tests begin with. */
final class Slopes {
    /** Sizes at their boundaries. */
    static final int[][] SIZES = {{2, 2}, {2, 8}, {8, 2}, {8, 8}};

    private Slopes() {
    }

    interface OfSize {
        PaddyTerraces make(int h, int w);
    }

    interface FieldCall {
        void make(PaddyTerraces x, int t, int f);
    }

    static PaddyTerraces ofSize(int h, int w) {
        PaddyTerraces x = new PaddyTerraces();
        x.lay(h, w);
        return x;
    }

    /** A slope to which the spring brings nothing, since all its shares are 0. */
    static PaddyTerraces withoutSpring(int h, int w) {
        PaddyTerraces x = ofSize(h, w);
        for (int f = 0; f < w; f++) {
            x.setShare(f, 0);
        }
        return x;
    }

    /** A slope without spring, rain and draught. */
    static PaddyTerraces withoutWeather(int h, int w) {
        PaddyTerraces x = withoutSpring(h, w);
        for (int day = 0; day < 30; day++) {
            x.setDay(day, 0, 0, 0);
        }
        return x;
    }

    /** A field that neither leads out nor seeps before it is 120 deep. */
    static void close(PaddyTerraces x, int t, int f) {
        x.setField(t, f, 120, 0);
        x.moveStone(t, f, 120);
    }

    /** Lets one day go by with this weather; the calendar's day of it is changed for good. */
    static int passOne(PaddyTerraces x, int rain, int spring, int draught) {
        x.setDay(x.count(2) % 30, rain, spring, draught);
        return x.pass(1);
    }

    /** Lets one day of this rain go by, and clears the calendar's day of it. */
    static void rainOnce(PaddyTerraces x, int rain) {
        int date = x.count(2) % 30;
        x.setDay(date, rain, 0, 0);
        x.pass(1);
        x.setDay(date, 0, 0, 0);
    }

    /**
     * A slope of 2 by 2 whose upper fields are 5 deep on the evening of each day: each gets 30 from the spring,
     * keeps 10 below its stone, and loses 2 by seepage and 3 by the sun.
     */
    static PaddyTerraces fiveDeep() {
        PaddyTerraces x = ofSize(2, 2);
        x.moveStone(0, 0, 10);
        x.moveStone(0, 1, 10);
        return x;
    }

    /** A slope whose fields are all 5 deep on the evenings of the days 1 to 30: what the rain brings, they lose. */
    static PaddyTerraces allFiveDeep(int h, int w) {
        PaddyTerraces x = withoutSpring(h, w);
        x.setDay(0, 10, 0, 3);
        for (int day = 1; day < 30; day++) {
            x.setDay(day, 5, 0, 3);
        }
        return x;
    }

    /** A slope as at first, but for its size of 2 by 2, on this day. */
    static PaddyTerraces onDay(int day) {
        PaddyTerraces x = ofSize(2, 2);
        int left = day;
        while (left > 60) {
            x.pass(60);
            left -= 60;
        }
        if (left > 0) {
            x.pass(left);
        }
        return x;
    }

    /** The calendar of busy(), with the least and the most of all on its last days. */
    static void setBusyCalendar(PaddyTerraces x) {
        x.setDay(0, 0, 60, 0);
        x.setDay(22, 0, 150, 1);
        x.setDay(28, 0, 0, 0);
        x.setDay(29, 60, 400, 20);
    }

    /**
     * A slope of 2 by 3 on day 23 of which every count and all kinds of a field's numbers tell something: a crop was
     * reaped, one has died, others grow, one of them drowned and one dry for some days, and all that can be set is set.
     */
    static PaddyTerraces busy() {
        PaddyTerraces x = ofSize(2, 3);
        setBusyCalendar(x);
        for (int f = 0; f < 3; f++) {
            x.moveStone(0, f, 10);
        }
        x.plant(0, 0, 20);
        x.plant(0, 1, 18);
        x.plant(1, 0, 0);
        x.pass(20);
        x.reap(0, 0);
        x.setField(1, 2, 20, 3);
        x.setField(0, 2, 50, 9);
        x.moveStone(0, 2, 0);
        x.turn(0, 1, -1);
        x.setShare(0, 2);
        x.setShare(2, 0);
        x.plant(0, 0, 3);
        x.plant(1, 0, 0);
        x.plant(0, 2, 20);
        x.pass(3);
        return x;
    }

    /** As busy(), of another size: the last field has a crop, and the last share is another one. */
    static PaddyTerraces busyOfSize(int h, int w) {
        PaddyTerraces x = ofSize(h, w);
        setBusyCalendar(x);
        x.setShare(w - 1, 3);
        x.setField(h - 1, w - 1, 90, 1);
        x.moveStone(h - 1, w - 1, 20);
        x.plant(h - 1, w - 1, 20);
        x.plant(0, 0, 7);
        x.pass(3);
        return x;
    }

    /**
     * A call that names a field: it is taken for each corner of slopes of all boundary sizes, and refused for what lies
     * just beside them, and far; and so it is where other arguments are wrong, too.
     */
    static void dueNoSuchField(Checks c, String call, OfSize slope, FieldCall made, FieldCall... otherwiseWrong) {
        dueCornersTaken(c, call, new PaddyTerraces(), slope, made);
        for (int[] size : SIZES) {
            int h = size[0];
            int w = size[1];
            dueCornersTaken(c, call, ofSize(h, w), slope, made);
            for (int[] at : besideASlope(h, w)) {
                String where = call + " at " + at[0] + ", " + at[1] + " of " + h + " by " + w;
                c.refusedIndex(where, () -> slope.make(h, w), x -> made.make(x, at[0], at[1]));
                for (FieldCall wrong : otherwiseWrong) {
                    Consumer<PaddyTerraces> all = x -> wrong.make(x, at[0], at[1]);
                    c.refusedIndex("otherwise wrong, " + where, () -> slope.make(h, w), all);
                }
            }
        }
    }

    private static void dueCornersTaken(Checks c, String call, PaddyTerraces size, OfSize slope, FieldCall made) {
        int h = size.count(0);
        int w = size.count(1);
        int[][] corners = {{0, 0}, {0, w - 1}, {h - 1, 0}, {h - 1, w - 1}};
        for (int[] at : corners) {
            try {
                made.make(slope.make(h, w), at[0], at[1]);
            } catch (RuntimeException e) {
                c.tell(call + " at " + at[0] + ", " + at[1] + " of " + h + " by " + w + " threw " + e);
            }
        }
    }

    private static int[][] besideASlope(int h, int w) {
        return new int[][] {{-1, 0}, {h, 0}, {0, -1}, {0, w}, {h - 1, w}, {h, w - 1}, {1, -1}, {-1, w}, {h, -1},
            {Integer.MAX_VALUE, 0}, {Integer.MIN_VALUE, 0}, {0, Integer.MAX_VALUE}, {0, Integer.MIN_VALUE}};
    }
}
