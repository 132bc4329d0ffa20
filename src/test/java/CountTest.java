/** Promise 12: count. */
public final class CountTest {
    public static void main(String[] args) {
        Checks c = new Checks();
        everyNumber(c);
        wrongOnes(c);
        c.end();
    }

    private static void everyNumber(Checks c) {
        PaddyTerraces x = Slopes.fiveDeep();
        x.setShare(1, 0);
        x.setDay(0, 0, 30, 3);
        x.plant(0, 0, 20);
        x.plant(0, 1, 20);
        due(c, "day 0", x, 2, 2, 0, 2, 0, 0, 0, 0, 40);
        x.pass(1);
        // 30 of the spring: 20 out, 5 lost; below 20, 5 lost.
        due(c, "day 1", x, 2, 2, 1, 2, 5 + 15, 0, 0, 0, 40);
        x.pass(1);
        // 65 with the spring of 60: 40 out, 5 lost; below 55: 25 out to the brook, 5 lost.
        due(c, "day 2", x, 2, 2, 2, 2, 20 + 25, 25, 0, 0, 40);
        x.plant(1, 1, 0);
        x.pass(3);
        // 80, 95, 110: 40 out each day, and 10 spill on the last (5 of it to the brook); below 65: 35 out each day.
        c.dueDepths("day 5", x, 55, 0, 25, 0);
        due(c, "day 5", x, 2, 2, 5, 1, 55 + 25, 25 + 3 * 35 + 5, 0, 2, 40);
        x.moveStone(0, 0, 30);
        x.moveStone(0, 0, 25);
        due(c, "moved", x, 2, 2, 5, 1, 80, 135, 0, 2, 65);
    }

    private static void due(Checks c, String when, PaddyTerraces x, int... want) {
        for (int what = 0; what < want.length; what++) {
            c.due(when + ": count(" + what + ")", x.count(what), want[what]);
        }
    }

    private static void wrongOnes(Checks c) {
        PaddyTerraces x = new PaddyTerraces();
        int[] wrong = {-1, 9, Integer.MAX_VALUE, Integer.MIN_VALUE};
        for (int what : wrong) {
            c.dueIndex("count(" + what + ")", x, () -> x.count(what));
        }
    }
}
