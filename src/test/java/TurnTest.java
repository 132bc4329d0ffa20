/** Promise 5: turn. */
public final class TurnTest {
    public static void main(String[] args) {
        Checks c = new Checks();
        sideBefore(c);
        whereTheWaterGoes(c);
        wrongOnes(c);
        c.end();
    }

    private static void sideBefore(Checks c) {
        PaddyTerraces x = new PaddyTerraces();
        c.due("turn(3, 0, -1)", x.turn(3, 0, -1), 0);
        c.due("turn(3, 0, 1)", x.turn(3, 0, 1), -1);
        c.due("turn(3, 0, 0)", x.turn(3, 0, 0), 1);
        c.due("turn(3, 0, 1)", x.turn(3, 0, 1), 0);
        c.due("field(3, 0, 4)", x.field(3, 0, 4), 1);
        c.due("field(3, 1, 4)", x.field(3, 1, 4), 0);
    }

    /** 40 go out of field (0, f); what comes to the terrace below, each field of it closed, tells where to. */
    private static void whereTheWaterGoes(Checks c) {
        due(c, 1, -1, 40, 0, 0, 0);
        due(c, 1, 0, 0, 40, 0, 0);
        due(c, 1, 1, 0, 0, 40, 0);
        due(c, 0, -1, 0, 0, 0, 40);
        due(c, 0, 1, 0, 40, 0, 0);
        due(c, 2, 1, 0, 0, 0, 40);
        due(c, 2, -1, 0, 40, 0, 0);
    }

    private static void due(Checks c, int f, int side, int left, int middle, int right, int brook) {
        PaddyTerraces x = Slopes.withoutSpring(2, 3);
        for (int column = 0; column < 3; column++) {
            Slopes.close(x, 1, column);
        }
        x.setShare(f, 1);
        x.setField(0, f, 120, 0);
        x.moveStone(0, f, 0);
        x.turn(0, f, side);
        Slopes.passOne(x, 0, 40, 0);
        String when = "column " + f + " turned to " + side;
        c.due(when + ": field(1, 0, 0)", x.field(1, 0, 0), left);
        c.due(when + ": field(1, 1, 0)", x.field(1, 1, 0), middle);
        c.due(when + ": field(1, 2, 0)", x.field(1, 2, 0), right);
        c.due(when + ": count(5)", x.count(5), brook);
    }

    private static void wrongOnes(Checks c) {
        PaddyTerraces x = new PaddyTerraces();
        x.lay(2, 3);
        int[][] noFields = {{-1, 0}, {0, -1}, {2, 0}, {0, 3}, {Integer.MIN_VALUE, 0}, {0, Integer.MAX_VALUE}};
        for (int[] at : noFields) {
            c.dueIndex("turn at " + at[0] + ", " + at[1], x, () -> x.turn(at[0], at[1], 0));
            c.dueIndex("all wrong at " + at[0] + ", " + at[1], x, () -> x.turn(at[0], at[1], 2));
        }
        int[] wrong = {-2, 2, Integer.MAX_VALUE, Integer.MIN_VALUE};
        for (int side : wrong) {
            c.dueArgument("turn(1, 2, " + side + ")", x, () -> x.turn(1, 2, side));
        }
    }
}
