/** Slopes that several tests begin with. */
final class Slopes {
    private Slopes() {
    }

    /** A slope to which the spring brings nothing, since all its shares are 0. */
    static PaddyTerraces withoutSpring(int h, int w) {
        PaddyTerraces x = new PaddyTerraces();
        x.lay(h, w);
        for (int f = 0; f < w; f++) {
            x.setShare(f, 0);
        }
        return x;
    }

    /** A field that neither leads out nor seeps before it is 120 deep. */
    static void close(PaddyTerraces x, int t, int f) {
        x.setField(t, f, 120, 0);
        x.moveStone(t, f, 120);
    }

    /** Lets one day go by with this weather; the calendar's day of it is changed for good. */
    static int passOne(PaddyTerraces x, int rain, int spring, int draught) {
        x.setDay(x.count(2) % 30, rain, spring, draught);
        return x.pass(1);
    }

    /**
     * A slope of 2 by 2 whose upper fields are 5 deep on the evening of each day: each gets 30 from the spring,
     * keeps 10 below its stone, and loses 2 by seepage and 3 by the sun.
     */
    static PaddyTerraces fiveDeep() {
        PaddyTerraces x = new PaddyTerraces();
        x.lay(2, 2);
        x.moveStone(0, 0, 10);
        x.moveStone(0, 1, 10);
        return x;
    }
}
