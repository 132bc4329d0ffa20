/** Promise 9: reap. */
public final class ReapTest {
    public static void main(String[] args) {
        Checks c = new Checks();
        ripe(c);
        aHalfMoreWhenDry(c);
        hardest(c);
        wrongOnes(c);
        c.end();
    }

    private static void ripe(Checks c) {
        PaddyTerraces x = Slopes.fiveDeep();
        x.plant(0, 0, 20);
        x.plant(0, 1, 19);
        x.pass(20);
        c.dueState("reap at the age 39", x, () -> x.reap(0, 1));
        c.due("reap at the age 40", x.reap(0, 0), 40 * 40 / 100);
        c.dueField("reaped", x, 0, 0, 5, 60, 2, 10, 0, 0, 0, 0, 0, 0, 25, 0);
        c.due("count(3)", x.count(3), 1);
        c.due("count(6)", x.count(6), 16);
        c.due("count(7)", x.count(7), 0);
        c.dueState("reap again", x, () -> x.reap(0, 0));
        x.pass(3);
        c.due("reap at the age 42", x.reap(0, 1), 42 * 46 / 100);
        c.due("count(6)", x.count(6), 16 + 19);
    }

    /** One dry day makes the hardness 40 to 37: 41 * 37 / 100 is 15, and a half of this is 7. */
    private static void aHalfMoreWhenDry(Checks c) {
        PaddyTerraces x = Slopes.fiveDeep();
        x.plant(0, 0, 20);
        x.pass(20);
        x.moveStone(0, 0, 0);
        x.pass(1);
        c.due("field(0, 0, 0)", x.field(0, 0, 0), 0);
        c.due("reap on a dry field", x.reap(0, 0), 15 + 7);
        c.due("count(6)", x.count(6), 22);
    }

    private static void hardest(Checks c) {
        PaddyTerraces x = Slopes.fiveDeep();
        x.plant(0, 0, 0);
        x.pass(60);
        c.due("field(0, 0, 7)", x.field(0, 0, 7), 100);
        c.due("reap at the age 60", x.reap(0, 0), 60);
        PaddyTerraces y = Slopes.fiveDeep();
        y.plant(0, 0, 20);
        y.pass(60);
        y.pass(20);
        c.due("reap at the age 100", y.reap(0, 0), 100);
    }

    private static void wrongOnes(Checks c) {
        PaddyTerraces x = new PaddyTerraces();
        x.lay(2, 3);
        int[][] noFields = {{-1, 0}, {0, -1}, {2, 0}, {0, 3}, {Integer.MAX_VALUE, 0}, {0, Integer.MIN_VALUE}};
        for (int[] at : noFields) {
            c.dueIndex("reap at " + at[0] + ", " + at[1], x, () -> x.reap(at[0], at[1]));
        }
        c.dueState("reap a fallow field", x, () -> x.reap(1, 2));
        x.plant(1, 2, 20);
        c.dueState("reap what was just planted", x, () -> x.reap(1, 2));
    }
}
