/** Promise 4: moveStone. */
public final class MoveStoneTest {
    public static void main(String[] args) {
        Checks c = new Checks();
        higherAndLower(c);
        theBankIsTheHighest(c);
        wrongOnes(c);
        c.end();
    }

    private static void higherAndLower(Checks c) {
        PaddyTerraces x = new PaddyTerraces();
        c.due("moveStone(2, 1, 0)", x.moveStone(2, 1, 0), -30);
        c.due("moveStone(2, 1, 47)", x.moveStone(2, 1, 47), 47);
        c.due("moveStone(2, 1, 47)", x.moveStone(2, 1, 47), 0);
        c.due("moveStone(2, 1, 40)", x.moveStone(2, 1, 40), -7);
        c.due("field(2, 1, 3)", x.field(2, 1, 3), 40);
        c.due("field(1, 2, 3)", x.field(1, 2, 3), 30);
        c.due("count(8)", x.count(8), 30 + 47 + 0 + 7);
    }

    private static void theBankIsTheHighest(Checks c) {
        PaddyTerraces x = new PaddyTerraces();
        c.due("moveStone(0, 0, 60)", x.moveStone(0, 0, 60), 30);
        c.dueArgument("moveStone(0, 0, 61)", x, () -> x.moveStone(0, 0, 61));
        x.setField(0, 0, 120, 2);
        c.due("moveStone(0, 0, 120)", x.moveStone(0, 0, 120), 60);
        c.dueArgument("moveStone(0, 0, 121)", x, () -> x.moveStone(0, 0, 121));
        x.setField(0, 0, 20, 2);
        c.dueArgument("moveStone(0, 0, 21)", x, () -> x.moveStone(0, 0, 21));
        c.due("moveStone(0, 0, 20)", x.moveStone(0, 0, 20), 0);
        c.due("count(8)", x.count(8), 90);
    }

    private static void wrongOnes(Checks c) {
        PaddyTerraces x = new PaddyTerraces();
        x.lay(3, 2);
        int[][] noFields = {{-1, 0}, {0, -1}, {3, 0}, {0, 2}, {2, 2}, {Integer.MAX_VALUE, 1}, {1, Integer.MIN_VALUE}};
        for (int[] at : noFields) {
            c.dueIndex("moveStone at " + at[0] + ", " + at[1], x, () -> x.moveStone(at[0], at[1], 10));
            c.dueIndex("all wrong at " + at[0] + ", " + at[1], x, () -> x.moveStone(at[0], at[1], -1));
        }
        int[] wrong = {-1, 61, Integer.MAX_VALUE, Integer.MIN_VALUE};
        for (int stone : wrong) {
            c.dueArgument("moveStone(2, 1, " + stone + ")", x, () -> x.moveStone(2, 1, stone));
        }
    }
}
