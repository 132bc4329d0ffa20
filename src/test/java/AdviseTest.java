/** Promise 15: advise. */
public final class AdviseTest {
    public static void main(String[] args) {
        Checks c = new Checks();
        nothingToBeBettered(c);
        mostCropsThenHardness(c);
        cropsBeforeHardness(c);
        firstOfEqualFields(c);
        firstOfEqualHeights(c);
        heightsUpToTheBank(c);
        theLargestSlope(c);
        nothingIsChanged(c);
        theLastDay(c);
        wrongOnes(c);
        c.end();
    }

    private static void due(Checks c, String when, PaddyTerraces x, int days, int t, int f, int height) {
        c.due(when + ": advise(" + days + ", 0)", x.advise(days, 0), t);
        c.due(when + ": advise(" + days + ", 1)", x.advise(days, 1), f);
        c.due(when + ": advise(" + days + ", 2)", x.advise(days, 2), height);
    }

    /** No spring and no draught; in each of the columns the upper field keeps 30, and below it stands a crop. */
    private static PaddyTerraces waterAboveCrops(int... columns) {
        PaddyTerraces x = Slopes.withoutSpring(2, 2);
        for (int day = 0; day < 30; day++) {
            x.setDay(day, 0, 0, 0);
        }
        for (int f : columns) {
            x.setField(0, f, 60, 0);
            x.moveStone(0, f, 60);
            x.setShare(f, 1);
        }
        Slopes.passOne(x, 0, 30 * columns.length, 0);
        x.setDay(0, 0, 0, 0);
        for (int f : columns) {
            x.plant(1, f, 10);
        }
        return x;
    }

    private static void nothingToBeBettered(Checks c) {
        due(c, "no crop", new PaddyTerraces(), 10, -1, -1, -1);
        PaddyTerraces x = Slopes.fiveDeep();
        x.plant(0, 0, 20);
        x.plant(0, 1, 20);
        due(c, "all grow as well as they can", x, 1, -1, -1, -1);
        due(c, "all grow as well as they can", x, 10, -1, -1, -1);
    }

    /**
     * With the upper stone at 20, 10 come to the crop: it is 8, 6, 4, 2 deep and then dry; at 10, it is 18, 16 and 14
     * deep, too deep for it, then 12 and 10; at 0, it dies by 28 to 22; and as it is, it dries up.
     */
    private static void mostCropsThenHardness(Checks c) {
        PaddyTerraces x = waterAboveCrops(1);
        c.due("foresee(4, 0)", x.foresee(4, 0), 1);
        c.due("foresee(5, 0)", x.foresee(5, 0), 0);
        due(c, "hardness 6, 2 or 0", x, 4, 0, 1, 20);
        due(c, "hardness 3 or 4, or dead", x, 5, 0, 1, 10);
        x.moveStone(0, 1, 20);
        c.due("foresee(5, 1)", x.foresee(5, 1), 3);
        due(c, "better by the sum alone", x, 5, 0, 1, 10);
        due(c, "not better", x, 4, -1, -1, -1);
    }

    /**
     * The crop above is hard, the one below stands dry. With the stone at 10, both live, though the upper one loses
     * more of its hardness than the lower one gains.
     */
    private static void cropsBeforeHardness(Checks c) {
        PaddyTerraces x = Slopes.withoutSpring(2, 2);
        for (int day = 0; day < 30; day++) {
            x.setDay(day, 0, 0, 0);
        }
        x.setField(0, 0, 60, 0);
        x.moveStone(0, 0, 60);
        x.setShare(0, 1);
        x.plant(0, 0, 20);
        Slopes.passOne(x, 0, 18, 0);
        x.pass(19);
        x.setField(0, 0, 60, 3);
        x.plant(1, 0, 10);
        c.due("left: foresee(5, 0)", x.foresee(5, 0), 1);
        c.due("left: foresee(5, 1)", x.foresee(5, 1), 49);
        due(c, "more crops, but less hardness", x, 5, 0, 0, 10);
        x.moveStone(0, 0, 10);
        c.due("moved: foresee(5, 0)", x.foresee(5, 0), 2);
        c.due("moved: foresee(5, 1)", x.foresee(5, 1), 38);
    }

    private static void firstOfEqualFields(Checks c) {
        PaddyTerraces x = waterAboveCrops(0, 1);
        due(c, "both columns alike", x, 5, 0, 0, 10);
        x.moveStone(0, 0, 10);
        due(c, "the other is left", x, 5, 0, 1, 10);
        x.moveStone(0, 1, 10);
        due(c, "none is left", x, 5, -1, -1, -1);
    }

    /** 28 deep a crop of this age drowns; with its stone at 10 or 20 it is 8 or 18 deep, which is as good. */
    private static void firstOfEqualHeights(Checks c) {
        PaddyTerraces x = Slopes.withoutSpring(2, 2);
        x.plant(1, 1, 20);
        x.setDay(0, 30, 0, 0);
        due(c, "10 or 20", x, 1, 1, 1, 10);
    }

    private static void heightsUpToTheBank(Checks c) {
        PaddyTerraces x = Slopes.withoutSpring(2, 2);
        x.setDay(0, 40, 0, 15);
        x.setField(0, 0, 20, 4);
        x.moveStone(0, 0, 0);
        x.plant(0, 0, 20);
        due(c, "only 20, the bank, leaves water", x, 1, 0, 0, 20);
        x.setField(0, 0, 24, 7);
        due(c, "24, the bank, is not looked at", x, 1, -1, -1, -1);

        PaddyTerraces y = Slopes.withoutSpring(2, 2);
        Slopes.close(y, 0, 0);
        Slopes.close(y, 1, 0);
        y.setShare(0, 1);
        Slopes.passOne(y, 0, 120, 0);
        y.moveStone(0, 0, 110);
        y.plant(1, 0, 20);
        y.setDay(1, 5, 0, 0);
        y.setShare(0, 0);
        // Of 125, the stone at 110 lets 15 come to the rain's 5 below, and the crop drowns; at 120 it lets 5 come.
        due(c, "120 keeps the crop from drowning", y, 1, 0, 0, 120);
    }

    /** A crop in the last field alone is too deep; its own stone is the last one that is looked at. */
    private static void theLargestSlope(Checks c) {
        PaddyTerraces x = Slopes.withoutSpring(8, 8);
        due(c, "8 by 8 without a crop", x, 10, -1, -1, -1);
        x.setField(7, 7, 120, 0);
        x.moveStone(7, 7, 120);
        x.plant(7, 7, 20);
        x.setDay(0, 20, 0, 0);
        due(c, "8 by 8", x, 1, 7, 7, 10);
    }

    private static void nothingIsChanged(Checks c) {
        PaddyTerraces x = waterAboveCrops(0);
        long before = x.digest();
        x.advise(10, 0);
        x.advise(1, 2);
        c.due("digest() after advise", x.digest(), before);
    }

    private static void theLastDay(Checks c) {
        PaddyTerraces x = new PaddyTerraces();
        for (int sixty = 0; sixty < 33; sixty++) {
            x.pass(60);
        }
        x.pass(10);
        c.due("advise(10, 0) on day 1990", x.advise(10, 0), -1);
        x.pass(1);
        c.dueState("advise(10, 0) on day 1991", x, () -> x.advise(10, 0));
        c.due("advise(9, 0) on day 1991", x.advise(9, 0), -1);
        x.pass(9);
        c.dueState("advise(1, 2) on day 2000", x, () -> x.advise(1, 2));
        c.dueIndex("advise(1, 3) on day 2000", x, () -> x.advise(1, 3));
        c.dueArgument("advise(11, 3) on day 2000", x, () -> x.advise(11, 3));
    }

    private static void wrongOnes(Checks c) {
        PaddyTerraces x = Slopes.fiveDeep();
        int[] wrongDays = {0, 11, -1, Integer.MAX_VALUE, Integer.MIN_VALUE};
        for (int days : wrongDays) {
            c.dueArgument("advise(" + days + ", 0)", x, () -> x.advise(days, 0));
            c.dueArgument("advise(" + days + ", -1)", x, () -> x.advise(days, -1));
        }
        int[] wrongNumbers = {-1, 3, Integer.MAX_VALUE, Integer.MIN_VALUE};
        for (int what : wrongNumbers) {
            c.dueIndex("advise(1, " + what + ")", x, () -> x.advise(1, what));
            c.dueIndex("advise(10, " + what + ")", x, () -> x.advise(10, what));
        }
    }
}
