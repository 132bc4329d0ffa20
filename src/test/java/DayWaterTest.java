/** Promise 10: what the water does on a day (weather, flow, loss). */
public final class DayWaterTest {
    public static void main(String[] args) {
        Checks c = new Checks();
        rainFlowAndLoss(c);
        springIsOnlyForTheUppermostTerrace(c);
        whatGoesOverAStone(c);
        spillToBothSides(c);
        spillBesideATerrace(c);
        spillToALaterFieldRunsOn(c);
        lossIsAtMostWhatThereIs(c);
        deepestAfterLoss(c);
        c.end();
    }

    private static void rainFlowAndLoss(Checks c) {
        PaddyTerraces x = Slopes.withoutSpring(2, 3);
        Slopes.passOne(x, 60, 0, 5);
        c.dueDepths("rain 60", x, 23, 23, 23, 43, 43, 43);
        c.due("rain 60: field(0, 1, 10)", x.field(0, 1, 10), 30);
        c.due("rain 60: field(1, 1, 10)", x.field(1, 1, 10), 40);
        c.due("rain 60: count(5)", x.count(5), 3 * 40);
    }

    private static void springIsOnlyForTheUppermostTerrace(Checks c) {
        PaddyTerraces x = new PaddyTerraces();
        x.lay(3, 2);
        Slopes.passOne(x, 0, 61, 0);
        c.dueDepths("spring 61", x, 28, 28, 0, 0, 0, 0);
        c.due("spring 61: count(5)", x.count(5), 0);
    }

    /** Spring s comes to a field with the stone 50; the reach of its outlet is 40. */
    private static void whatGoesOverAStone(Checks c) {
        int[][] springAndOut = {{0, 0}, {49, 0}, {50, 0}, {51, 1}, {89, 39}, {90, 40}, {91, 40}, {100, 40}};
        for (int[] row : springAndOut) {
            PaddyTerraces x = Slopes.withoutSpring(2, 2);
            Slopes.close(x, 0, 1);
            x.moveStone(0, 1, 50);
            Slopes.close(x, 1, 1);
            x.setShare(1, 1);
            Slopes.passOne(x, 0, row[0], 0);
            String when = "spring " + row[0];
            c.due(when + ": field(0, 1, 10)", x.field(0, 1, 10), row[1]);
            c.dueDepths(when, x, 0, row[0] - row[1], 0, row[1]);
            c.due(when + ": count(5)", x.count(5), 0);
        }
    }

    /** 101 come to the middle: 40 go out, and of the 41 above its bank 20 spill to the left, 21 to the right. */
    private static void spillToBothSides(Checks c) {
        PaddyTerraces x = Slopes.withoutSpring(2, 3);
        x.setShare(1, 1);
        x.setField(0, 1, 20, 0);
        x.moveStone(0, 0, 5);
        x.moveStone(0, 2, 5);
        Slopes.passOne(x, 0, 101, 0);
        // Column 0 had its turn before: its 20 stay till the next day; of the 21 in column 2, 16 go out at once.
        c.dueDepths("spill", x, 20 - 2, 20, 21 - 16 - 2, 0, 30 - 2, 16 - 2);
        c.due("spill: field(0, 0, 10)", x.field(0, 0, 10), 0);
        c.due("spill: field(0, 1, 11)", x.field(0, 1, 11), 41);
        c.due("spill: field(0, 2, 10)", x.field(0, 2, 10), 16);
        c.due("spill: count(5)", x.count(5), 10);
        Slopes.passOne(x, 0, 0, 0);
        c.dueDepths("the next day", x, 3, 20, 1, 13 - 2, 26, 12);
        c.due("the next day: field(0, 0, 10)", x.field(0, 0, 10), 13);
        c.due("the next day: field(0, 1, 11)", x.field(0, 1, 11), 0);
    }

    private static void spillBesideATerrace(Checks c) {
        PaddyTerraces left = Slopes.withoutSpring(2, 2);
        left.setShare(0, 1);
        left.setField(0, 0, 20, 0);
        Slopes.close(left, 0, 1);
        Slopes.close(left, 1, 0);
        Slopes.passOne(left, 0, 101, 0);
        c.dueDepths("spill of column 0", left, 20, 21, 40, 0);
        c.due("spill of column 0: count(5)", left.count(5), 20);

        PaddyTerraces right = Slopes.withoutSpring(2, 2);
        right.setShare(1, 1);
        right.setField(0, 1, 20, 0);
        Slopes.close(right, 0, 0);
        Slopes.close(right, 1, 1);
        Slopes.passOne(right, 0, 101, 0);
        c.dueDepths("spill of column 1", right, 20, 20, 0, 40);
        c.due("spill of column 1: count(5)", right.count(5), 21);
    }

    /** What spills to the right spills on there on the same day, and a half of it comes back. */
    private static void spillToALaterFieldRunsOn(Checks c) {
        PaddyTerraces x = Slopes.withoutSpring(2, 3);
        for (int f = 0; f < 3; f++) {
            x.setField(0, f, 20, 0);
            Slopes.close(x, 1, f);
        }
        x.setShare(0, 1);
        Slopes.passOne(x, 0, 300, 0);
        // 300: 40 out, 240 spill. 120: 40 out, 60 spill. 30: 10 out.
        c.dueDepths("spill runs on", x, 20 + 30, 20, 20, 40, 40, 10);
        c.due("spill runs on: field(0, 0, 11)", x.field(0, 0, 11), 240);
        c.due("spill runs on: field(0, 1, 11)", x.field(0, 1, 11), 60);
        c.due("spill runs on: field(0, 2, 11)", x.field(0, 2, 11), 0);
        c.due("spill runs on: count(5)", x.count(5), 120);
    }

    private static void lossIsAtMostWhatThereIs(Checks c) {
        PaddyTerraces x = Slopes.withoutSpring(2, 2);
        x.setField(0, 0, 60, 9);
        x.setField(0, 1, 60, 0);
        Slopes.passOne(x, 24, 0, 15);
        c.dueDepths("loss", x, 0, 9, 7, 7);
        Slopes.passOne(x, 5, 0, 15);
        c.dueDepths("loss of more than there is", x, 0, 0, 0, 0);
        c.due("what is lost does not come to the brook", x.count(5), 0);
    }

    /** The field at the left is 120 deep; of what spills beside it, a half comes to it after its turn. */
    private static void deepestAfterLoss(Checks c) {
        deepest(c, 220, 0, 0, 200, 80);
        deepest(c, 222, 0, 0, 200, 81 + 1);
        deepest(c, 400, 0, 0, 200, 170 + 90);
        deepest(c, 400, 9, 20, 200, 170 + 61);
        deepest(c, 222, 1, 0, 200, 81);
        deepest(c, 222, 1, 1, 199, 81);
    }

    private static void deepest(Checks c, int spring, int seepage, int draught, int depth, int brook) {
        PaddyTerraces x = Slopes.withoutSpring(2, 2);
        Slopes.close(x, 0, 0);
        Slopes.close(x, 1, 1);
        x.setShare(0, 1);
        Slopes.passOne(x, 0, 120, 0);
        x.setShare(0, 0);
        x.setShare(1, 1);
        x.setField(0, 0, 120, seepage);
        x.setField(0, 1, 20, 0);
        Slopes.passOne(x, 0, spring, draught);
        String when = "spring " + spring + ", seepage " + seepage + ", draught " + draught;
        c.due(when + ": field(0, 0, 0)", x.field(0, 0, 0), depth);
        c.due(when + ": count(5)", x.count(5), brook);
    }
}
