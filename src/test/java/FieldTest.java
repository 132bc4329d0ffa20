/** Promise 11: field. */
public final class FieldTest {
    public static void main(String[] args) {
        Checks c = new Checks();
        everyNumber(c);
        outAndSpillAreOfTheDay(c);
        wrongOnes(c);
        c.end();
    }

    /** Field (0, 1): 200 of the spring, 40 out over its stone, 50 above its bank, 5 lost: 105 are left. */
    private static void everyNumber(Checks c) {
        PaddyTerraces x = new PaddyTerraces();
        x.lay(2, 2);
        x.setField(0, 1, 110, 4);
        x.moveStone(0, 1, 80);
        x.turn(0, 1, -1);
        x.setShare(0, 0);
        x.plant(0, 1, 7);
        Slopes.passOne(x, 0, 200, 1);
        c.dueField("on day 1", x, 0, 1, 105, 110, 4, 80, -1, 1, 8, 0, 1, 0, 40, 50);
        c.dueField("on day 1", x, 1, 0, 27, 60, 2, 30, 0, 0, 0, 0, 0, 0, 10, 0);
        c.dueField("on day 1", x, 1, 1, 0, 60, 2, 30, 0, 0, 0, 0, 0, 0, 0, 0);

        PaddyTerraces y = Slopes.withoutSpring(2, 2);
        y.plant(1, 1, 20);
        y.pass(4);
        c.dueField("dry on day 4", y, 1, 1, 0, 60, 2, 30, 0, 1, 24, 0, 0, 4, 0, 0);
    }

    private static void outAndSpillAreOfTheDay(Checks c) {
        PaddyTerraces x = new PaddyTerraces();
        x.lay(2, 2);
        x.setField(0, 0, 20, 0);
        Slopes.passOne(x, 0, 200, 0);
        c.due("field(0, 0, 10)", x.field(0, 0, 10), 40);
        c.due("field(0, 0, 11)", x.field(0, 0, 11), 40);
        x.setShare(0, 0);
        x.setShare(1, 0);
        x.moveStone(0, 1, 60);
        x.moveStone(0, 0, 20);
        c.due("field(0, 0, 10) after other calls", x.field(0, 0, 10), 40);
        c.due("field(0, 0, 11) after other calls", x.field(0, 0, 11), 40);
        x.pass(9);
        c.due("field(0, 0, 10) on a still day", x.field(0, 0, 10), 0);
        c.due("field(0, 0, 11) on a still day", x.field(0, 0, 11), 0);
    }

    private static void wrongOnes(Checks c) {
        PaddyTerraces x = new PaddyTerraces();
        x.lay(8, 2);
        int[][] wrong = {{-1, 0, 0}, {8, 0, 0}, {0, -1, 0}, {0, 2, 0}, {0, 0, -1}, {0, 0, 12}, {7, 1, 12},
            {Integer.MAX_VALUE, 0, 0}, {0, Integer.MAX_VALUE, 0}, {0, 0, Integer.MAX_VALUE},
            {Integer.MIN_VALUE, 0, 0}, {0, Integer.MIN_VALUE, 0}, {0, 0, Integer.MIN_VALUE}};
        for (int[] bad : wrong) {
            c.dueIndex("field(" + bad[0] + ", " + bad[1] + ", " + bad[2] + ")", x,
                () -> x.field(bad[0], bad[1], bad[2]));
        }
        c.due("field(7, 1, 11)", x.field(7, 1, 11), 0);
    }
}
