/** Promise 3: setField. */
public final class SetFieldTest {
    public static void main(String[] args) {
        Checks c = new Checks();
        bankAndSeepage(c);
        stoneIsAtMostTheBank(c);
        waterStaysTillTheNextDay(c);
        wrongOnes(c);
        c.end();
    }

    private static void bankAndSeepage(Checks c) {
        PaddyTerraces x = new PaddyTerraces();
        c.due("setField(3, 2, 120, 9)", x.setField(3, 2, 120, 9), 60);
        c.dueField("after setField(3, 2, 120, 9)", x, 3, 2, 0, 120, 9, 30, 0);
        c.dueField("the field beside", x, 3, 1, 0, 60, 2, 30, 0);
        c.dueField("the field above", x, 2, 2, 0, 60, 2, 30, 0);
        c.due("setField(3, 2, 20, 0)", x.setField(3, 2, 20, 0), 120);
        c.dueField("after setField(3, 2, 20, 0)", x, 3, 2, 0, 20, 0, 20, 0);
        c.due("setField(3, 2, 45, 3)", x.setField(3, 2, 45, 3), 20);
    }

    private static void stoneIsAtMostTheBank(Checks c) {
        PaddyTerraces x = new PaddyTerraces();
        x.setField(0, 0, 30, 2);
        c.due("a stone as high as the bank", x.field(0, 0, 3), 30);
        x.setField(0, 0, 29, 2);
        c.due("a stone higher than the bank", x.field(0, 0, 3), 29);
        c.due("that is no move: count(8)", x.count(8), 0);
        x.setField(0, 0, 100, 2);
        c.due("a lowered stone stays low", x.field(0, 0, 3), 29);
    }

    private static void waterStaysTillTheNextDay(Checks c) {
        PaddyTerraces x = Slopes.withoutSpring(2, 2);
        Slopes.close(x, 0, 0);
        Slopes.passOne(x, 60, 0, 0);
        x.setField(0, 0, 20, 0);
        c.dueField("after the bank was lowered", x, 0, 0, 60, 20, 0, 20, 0, 0, 0, 0, 0, 0, 0, 0);
        c.due("the brook before the next day", x.count(5), 30 + 40);
        Slopes.passOne(x, 1, 0, 0);
        c.dueField("on the next day", x, 0, 0, 20, 20, 0, 20, 0, 0, 0, 0, 0, 0, 40, 1);
    }

    private static void wrongOnes(Checks c) {
        PaddyTerraces x = new PaddyTerraces();
        x.lay(2, 3);
        int[][] noFields = {{-1, 0}, {0, -1}, {2, 0}, {0, 3}, {1, 3}, {Integer.MAX_VALUE, 0},
            {0, Integer.MAX_VALUE}, {Integer.MIN_VALUE, 0}, {0, Integer.MIN_VALUE}};
        for (int[] at : noFields) {
            c.dueIndex("setField at " + at[0] + ", " + at[1], x, () -> x.setField(at[0], at[1], 60, 2));
            c.dueIndex("all wrong at " + at[0] + ", " + at[1], x, () -> x.setField(at[0], at[1], 0, 10));
        }
        int[][] wrong = {{19, 2}, {121, 2}, {60, -1}, {60, 10}, {19, 10}, {-60, 2},
            {Integer.MAX_VALUE, 0}, {60, Integer.MIN_VALUE}};
        for (int[] bad : wrong) {
            c.dueArgument("setField(1, 2, " + bad[0] + ", " + bad[1] + ")", x,
                () -> x.setField(1, 2, bad[0], bad[1]));
        }
        c.due("setField(1, 2, 20, 0)", x.setField(1, 2, 20, 0), 60);
    }
}
