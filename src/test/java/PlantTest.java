/** Promise 8: plant. */
public final class PlantTest {
    public static void main(String[] args) {
        Checks c = new Checks();
        newCrops(c);
        deepestWater(c);
        plantedAgain(c);
        wrongOnes(c);
        c.end();
    }

    private static void newCrops(Checks c) {
        PaddyTerraces x = new PaddyTerraces();
        c.due("plant(0, 0, 0)", x.plant(0, 0, 0), 1);
        c.due("plant(3, 3, 20)", x.plant(3, 3, 20), 2);
        c.dueField("planted", x, 0, 0, 0, 60, 2, 30, 0, 1, 0, 0, 0, 0, 0, 0);
        c.dueField("planted", x, 3, 3, 0, 60, 2, 30, 0, 1, 20, 0, 0, 0, 0, 0);
        c.dueField("not planted", x, 0, 1, 0, 60, 2, 30, 0, 0, 0, 0, 0, 0, 0, 0);
        c.due("count(3)", x.count(3), 2);
    }

    private static void deepestWater(Checks c) {
        PaddyTerraces x = Slopes.withoutSpring(2, 2);
        Slopes.close(x, 0, 0);
        Slopes.close(x, 0, 1);
        Slopes.passOne(x, 40, 0, 0);
        c.due("plant at the depth 40", x.plant(0, 0, 5), 1);
        Slopes.passOne(x, 1, 0, 0);
        c.due("field(0, 1, 0)", x.field(0, 1, 0), 41);
        c.dueState("plant at the depth 41", x, () -> x.plant(0, 1, 5));
        c.dueArgument("plant too old at the depth 41", x, () -> x.plant(0, 1, 21));
    }

    private static void plantedAgain(Checks c) {
        PaddyTerraces x = Slopes.fiveDeep();
        x.plant(0, 0, 20);
        c.dueState("plant on a crop", x, () -> x.plant(0, 0, 0));
        x.pass(20);
        c.due("field(0, 0, 7)", x.field(0, 0, 7), 40);
        c.dueState("plant on a ripe crop", x, () -> x.plant(0, 0, 0));
        x.reap(0, 0);
        c.due("plant after reaping", x.plant(0, 0, 3), 1);
        c.dueField("planted after reaping", x, 0, 0, 5, 60, 2, 10, 0, 1, 3, 0, 0, 0);
    }

    private static void wrongOnes(Checks c) {
        PaddyTerraces x = new PaddyTerraces();
        x.lay(2, 3);
        x.plant(1, 2, 0);
        int[][] noFields = {{-1, 0}, {0, -1}, {2, 0}, {0, 3}, {Integer.MAX_VALUE, 0}, {0, Integer.MIN_VALUE}};
        for (int[] at : noFields) {
            c.dueIndex("plant at " + at[0] + ", " + at[1], x, () -> x.plant(at[0], at[1], 0));
            c.dueIndex("all wrong at " + at[0] + ", " + at[1], x, () -> x.plant(at[0], at[1], 21));
        }
        int[] wrong = {-1, 21, Integer.MAX_VALUE, Integer.MIN_VALUE};
        for (int age : wrong) {
            c.dueArgument("plant(0, 0, " + age + ")", x, () -> x.plant(0, 0, age));
            c.dueArgument("plant(1, 2, " + age + ") on a crop", x, () -> x.plant(1, 2, age));
        }
        c.dueState("plant(1, 2, 0) on a crop", x, () -> x.plant(1, 2, 0));
    }
}
