/** Promise 10: the boundaries of a day's flow. */
public final class P10DayFlowBoundsTest {
    public static void main(String[] args) {
        sentences().run();
    }

    static Sentences sentences() {
        Sentences s = Sentences.ofSection("Terms", "Promise 10");
        s.test("Flow, terrace by terrace from the uppermost one on", P10DayFlowBoundsTest::terraceByTerrace);
        s.test("in each from column 0 on", P10DayFlowBoundsTest::inEachFromColumn0On);
        s.test("What stands in a field above its stone goes out: depth less stone",
            P10DayFlowBoundsTest::whatStandsAboveItsStone);
        s.test("but at most its reach, 40 a day", P10DayFlowBoundsTest::atMost40ADay);
        s.test("to the field of the next terrace in the column f less 1, f, or f and 1",
            P10DayFlowBoundsTest::toTheNextTerrace);
        s.test("from the last terrace, or if there is no such column, it leads into the brook",
            P10DayFlowBoundsTest::intoTheBrook);
        s.test("the depth of that field is greater by it at once", P10DayFlowBoundsTest::greaterAtOnce);
        s.test("which is as high as all its sides but for its outlet", P10DayFlowBoundsTest::keepsWaterUpToItsBank);
        s.test("Then, if the depth is still greater than the bank, what is above the bank spills",
            P10DayFlowBoundsTest::whatIsAboveTheBankSpills);
        s.test("the half of it (cut) to the field beside in the column less 1, the rest to that in the column and 1",
            P10DayFlowBoundsTest::theHalfCutToTheLeft);
        s.test("both of the same terrace, at once", P10DayFlowBoundsTest::spillsAtOnce);
        s.test("what would go beside a terrace runs into the brook", P10DayFlowBoundsTest::besideATerrace);
        s.test("(What spills to a field whose turn was earlier on this day stays there till the next one.)",
            P10DayFlowBoundsTest::staysTillTheNextDay);
        return s;
    }

    /** A slope without rain and draught whose spring brings this to one field of terrace 0, which does not seep. */
    private static PaddyTerraces fed(int h, int w, int column, int spring) {
        PaddyTerraces x = Slopes.withoutWeather(h, w);
        x.setShare(column, 1);
        x.setField(0, column, 60, 0);
        x.setDay(0, 0, spring, 0);
        return x;
    }

    /** Water runs down all terraces on one day, at most 40 of it from each to the next. */
    private static void terraceByTerrace(Checks c) {
        int[][] springAndBrook = {{30, 30}, {40, 40}, {41, 40}};
        for (int[] row : springAndBrook) {
            PaddyTerraces x = fed(8, 2, 1, row[0]);
            for (int t = 0; t < 8; t++) {
                x.moveStone(t, 1, 0);
            }
            x.pass(1);
            c.due("spring " + row[0] + ": count(5)", x.count(5), row[1]);
            c.due("spring " + row[0] + ": count(4)", x.count(4), row[0] - row[1]);
            for (int t = 0; t < 8; t++) {
                c.due("spring " + row[0] + ": field(" + t + ", 1, 10)", x.field(t, 1, 10), row[1]);
            }
        }
    }

    /** Column 0 spills over all columns behind it on the same day, the last column only to the one before it. */
    private static void inEachFromColumn0On(Checks c) {
        PaddyTerraces x = fed(2, 4, 0, 360);
        for (int f = 0; f < 4; f++) {
            x.setField(0, f, 20, 0);
        }
        x.pass(1);
        // 360: 40 out, 300 spill; 150: 40 out, 90 spill; 45: 25 out; nothing spills on.
        c.dueDepths("from column 0", x, 20 + 45, 20, 20, 0, 28, 28, 23, 0);
        c.due("from column 0: count(5)", x.count(5), 150 + 10 + 10);

        PaddyTerraces y = fed(2, 4, 3, 360);
        for (int f = 0; f < 4; f++) {
            y.setField(0, f, 20, 0);
        }
        y.pass(1);
        c.dueDepths("from the last column", y, 0, 0, 150, 20, 0, 0, 0, 28);
        c.due("from the last column: count(5)", y.count(5), 150 + 10);
        c.due("the column before had its turn", y.field(0, 2, 10), 0);
    }

    private static void whatStandsAboveItsStone(Checks c) {
        int[][] stoneSpringAndOut = {{0, 0, 0}, {0, 1, 1}, {30, 29, 0}, {30, 30, 0}, {30, 31, 1}, {60, 59, 0},
            {60, 60, 0}, {60, 61, 1}};
        dueOut(c, stoneSpringAndOut);
    }

    private static void atMost40ADay(Checks c) {
        int[][] stoneSpringAndOut = {{0, 39, 39}, {0, 40, 40}, {0, 41, 40}, {20, 59, 39}, {20, 60, 40}, {20, 61, 40},
            {60, 99, 39}, {60, 100, 40}, {60, 101, 40}, {0, 400, 40}};
        dueOut(c, stoneSpringAndOut);
        PaddyTerraces x = fed(2, 2, 0, 100);
        x.setField(0, 0, 120, 0);
        x.moveStone(0, 0, 0);
        x.pass(1);
        c.due("on the first day", x.field(0, 0, 0), 60);
        x.pass(1);
        c.due("40 again on the second day", x.field(0, 0, 0), 20);
        x.pass(1);
        c.due("the rest on the third day", x.field(0, 0, 0), 0);
        c.due("field(0, 0, 10)", x.field(0, 0, 10), 20);
    }

    private static void dueOut(Checks c, int[][] stoneSpringAndOut) {
        for (int[] row : stoneSpringAndOut) {
            PaddyTerraces x = fed(2, 2, 0, row[1]);
            Slopes.close(x, 1, 0);
            x.moveStone(0, 0, row[0]);
            x.pass(1);
            String when = "the stone " + row[0] + ", spring " + row[1];
            c.due(when + ": field(0, 0, 10)", x.field(0, 0, 10), row[2]);
            c.due(when + ": what comes below", x.field(1, 0, 0), row[2]);
        }
    }

    private static void toTheNextTerrace(Checks c) {
        dueWhereTo(c, 1, -1, 30, 0, 0, 0);
        dueWhereTo(c, 1, 0, 0, 30, 0, 0);
        dueWhereTo(c, 1, 1, 0, 0, 30, 0);
        dueWhereTo(c, 0, 1, 0, 30, 0, 0);
        dueWhereTo(c, 0, 0, 30, 0, 0, 0);
        dueWhereTo(c, 2, 0, 0, 0, 30, 0);
        dueWhereTo(c, 2, -1, 0, 30, 0, 0);
    }

    private static void intoTheBrook(Checks c) {
        dueWhereTo(c, 0, -1, 0, 0, 0, 30);
        dueWhereTo(c, 2, 1, 0, 0, 0, 30);
        for (int[] size : Slopes.SIZES) {
            for (int side = -1; side <= 1; side++) {
                dueLastTerraceToTheBrook(c, size[0], size[1], 0, side);
                dueLastTerraceToTheBrook(c, size[0], size[1], size[1] - 1, side);
            }
        }
    }

    /** 30 go out of field (0, f) of 3 columns: what comes to each field below, and to the brook. */
    private static void dueWhereTo(Checks c, int f, int side, int left, int middle, int right, int brook) {
        PaddyTerraces x = fed(2, 3, f, 30);
        for (int column = 0; column < 3; column++) {
            Slopes.close(x, 1, column);
        }
        x.moveStone(0, f, 0);
        x.turn(0, f, side);
        x.pass(1);
        String when = "column " + f + ", the side " + side;
        c.dueDepths(when, x, 0, 0, 0, left, middle, right);
        c.due(when + ": count(5)", x.count(5), brook);
    }

    private static void dueLastTerraceToTheBrook(Checks c, int h, int w, int f, int side) {
        PaddyTerraces x = Slopes.withoutWeather(h, w);
        x.moveStone(h - 1, f, 0);
        x.turn(h - 1, f, side);
        x.setDay(0, 13, 0, 0);
        x.pass(1);
        String when = "column " + f + " of " + h + " by " + w + ", the side " + side;
        c.due(when + ": count(5)", x.count(5), 13);
        c.due(when + ": count(4)", x.count(4), 11 * (h * w - 1));
    }

    /** What comes from above lifts a field over its stone, and over its bank, on the same day. */
    private static void greaterAtOnce(Checks c) {
        PaddyTerraces x = fed(3, 2, 0, 70);
        x.setField(1, 0, 20, 0);
        x.moveStone(1, 0, 20);
        x.moveStone(0, 0, 30);
        x.pass(1);
        c.dueDepths("40 come to a stone of 20", x, 30, 0, 20, 0, 20 - 2, 0);
        PaddyTerraces y = fed(3, 2, 1, 40);
        y.setDay(0, 45, 40, 0);
        y.moveStone(0, 1, 0);
        y.setField(1, 1, 20, 0);
        y.moveStone(1, 1, 20);
        y.pass(1);
        // 45 of rain and 40 from above: 40 go out, and 25 of what is left are above the bank.
        c.due("field(1, 1, 10)", y.field(1, 1, 10), 40);
        c.due("field(1, 1, 11)", y.field(1, 1, 11), 25);
    }

    /** A stone at 0 lets out what the bank would keep; a stone as high as the bank lets it stand up to it. */
    private static void keepsWaterUpToItsBank(Checks c) {
        int[] banks = {20, 60, 120};
        for (int bank : banks) {
            PaddyTerraces x = fed(2, 2, 0, bank);
            x.setField(0, 0, bank, 0);
            x.moveStone(0, 0, bank);
            x.pass(1);
            c.dueField("kept, the bank " + bank, x, 0, 0, bank, bank, 0, bank, 0, 0, 0, 0, 0, 0, 0, 0);
            PaddyTerraces y = fed(2, 2, 0, bank);
            y.setField(0, 0, bank, 0);
            y.moveStone(0, 0, 0);
            y.pass(1);
            int out = bank < 40 ? bank : 40;
            c.dueField("let out, the bank " + bank, y, 0, 0, bank - out, bank, 0, 0, 0, 0, 0, 0, 0, 0, out, 0);
        }
    }

    private static void whatIsAboveTheBankSpills(Checks c) {
        int[][] bankSpringAndSpill = {{20, 59, 0}, {20, 60, 0}, {20, 61, 1}, {20, 62, 2}, {60, 100, 0}, {60, 101, 1},
            {120, 159, 0}, {120, 160, 0}, {120, 161, 1}, {20, 400, 340}, {120, 400, 240}};
        for (int[] row : bankSpringAndSpill) {
            PaddyTerraces x = fed(2, 2, 1, row[1]);
            x.setField(0, 1, row[0], 0);
            x.moveStone(0, 1, row[0]);
            x.pass(1);
            String when = "the bank " + row[0] + ", spring " + row[1];
            c.due(when + ": field(0, 1, 11)", x.field(0, 1, 11), row[2]);
            c.due(when + ": field(0, 1, 0)", x.field(0, 1, 0), row[0]);
        }
    }

    private static void theHalfCutToTheLeft(Checks c) {
        int[][] springLeftAndRight = {{100, 0, 0}, {101, 0, 1}, {102, 1, 1}, {103, 1, 2}, {104, 2, 2}, {141, 20, 21}};
        for (int[] row : springLeftAndRight) {
            PaddyTerraces x = fed(2, 3, 1, row[0]);
            x.moveStone(0, 1, 60);
            Slopes.close(x, 0, 0);
            Slopes.close(x, 0, 2);
            Slopes.close(x, 1, 1);
            x.pass(1);
            c.dueDepths("spring " + row[0], x, row[1], 60, row[2], 0, 40, 0);
            c.due("spring " + row[0] + ": count(5)", x.count(5), 0);
        }
    }

    /** What spills to the right goes out there on the same day, and over the bank there as well. */
    private static void spillsAtOnce(Checks c) {
        PaddyTerraces x = fed(2, 2, 0, 360);
        x.moveStone(0, 0, 60);
        x.setField(0, 1, 20, 0);
        Slopes.close(x, 1, 0);
        Slopes.close(x, 1, 1);
        x.pass(1);
        // 360: 40 out, 260 spill, half of them to the brook. 130: 40 out, 70 spill, half of them back.
        c.dueDepths("both columns", x, 60 + 35, 20, 40, 40);
        c.due("field(0, 1, 10)", x.field(0, 1, 10), 40);
        c.due("field(0, 1, 11)", x.field(0, 1, 11), 70);
        c.due("count(5)", x.count(5), 130 + 35);
    }

    private static void besideATerrace(Checks c) {
        int[][] springHalfAndRest = {{101, 0, 1}, {102, 1, 1}, {103, 1, 2}};
        for (int[] row : springHalfAndRest) {
            for (int[] size : Slopes.SIZES) {
                int last = size[1] - 1;
                PaddyTerraces x = spilling(size[0], size[1], 0, row[0]);
                c.due("of column 0 to the brook", x.count(5), row[1]);
                c.due("of column 0 to column 1", x.field(0, 1, 0), row[2]);
                PaddyTerraces y = spilling(size[0], size[1], last, row[0]);
                c.due("of the last column to the brook", y.count(5), row[2]);
                c.due("of the last column to that before", y.field(0, last - 1, 0), row[1]);
            }
        }
    }

    private static PaddyTerraces spilling(int h, int w, int f, int spring) {
        PaddyTerraces x = fed(h, w, f, spring);
        x.moveStone(0, f, 60);
        Slopes.close(x, 0, f == 0 ? 1 : f - 1);
        Slopes.close(x, 1, f);
        x.pass(1);
        return x;
    }

    /** 31 spill to the left after its turn: they stay above its stone and its bank, and are let out on the next day. */
    private static void staysTillTheNextDay(Checks c) {
        PaddyTerraces x = fed(2, 2, 1, 122);
        x.setField(0, 0, 20, 0);
        x.moveStone(0, 0, 0);
        x.setField(0, 1, 20, 0);
        x.pass(1);
        c.dueField("on the same day", x, 0, 0, 31, 20, 0, 0, 0, 0, 0, 0, 0, 0, 0, 0);
        x.setDay(1, 0, 0, 0);
        x.pass(1);
        c.dueField("on the next day", x, 0, 0, 0, 20, 0, 0, 0, 0, 0, 0, 0, 0, 31, 0);
        PaddyTerraces y = fed(2, 2, 1, 222);
        y.setField(0, 0, 20, 0);
        y.setField(0, 1, 20, 0);
        y.pass(1);
        c.due("81 on the same day", y.field(0, 0, 0), 81);
        y.pass(1);
        c.dueField("on the next day", y, 0, 0, 20, 20, 0, 20, 0, 0, 0, 0, 0, 0, 40, 21);
    }
}
