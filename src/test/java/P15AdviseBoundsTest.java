/** Promise 15: the boundaries of advise. */
public final class P15AdviseBoundsTest {
    public static void main(String[] args) {
        sentences().run();
    }

    static Sentences sentences() {
        Sentences s = Sentences.ofPromise(15);
        s.test("for each field, in the order of terraces and columns", P15AdviseBoundsTest::inTheOrderOfFields);
        s.test("each height 0, 10, 20 .. up to its bank, one after the other", P15AdviseBoundsTest::heightsUpToTheBank);
        s.test("it is looked what would be foreseen, if its stone had this height",
            P15AdviseBoundsTest::oneStoneAloneIsMoved);
        s.test("best is what has the most fields with a crop then", P15AdviseBoundsTest::mostCropsBeforeHardness);
        s.test("of these the greatest sum of their hardness", P15AdviseBoundsTest::greatestSumOfHardness);
        s.test("of these the first one that was looked at", P15AdviseBoundsTest::firstThatWasLookedAt);
        s.test("but nothing is best that is not better (by fields, or by the sum) than leaving all stones as they are",
            P15AdviseBoundsTest::nothingThatIsNotBetter);
        s.test("how many days are foreseen, 1 to 10", P15AdviseBoundsTest::oneDayAndTen);
        s.test("0 its terrace, 1 its column, 2 the height", P15AdviseBoundsTest::terraceColumnAndHeight);
        s.test("Returns this; -1 if all stones had best be left.", P15AdviseBoundsTest::minus1IfAllHadBestBeLeft);
        s.test("if days is not 1 to 10", P15AdviseBoundsTest::refusedIfDaysIsNot1To10);
        s.test("if what is not 0 to 2", P15AdviseBoundsTest::refusedIfWhatIsNot0To2);
        s.test("if the day would be greater than 2000", P15AdviseBoundsTest::refusedBeyondDay2000);
        return s;
    }

    private static void due(Checks c, String when, PaddyTerraces x, int days, int t, int f, int height) {
        c.due(when + ": advise(" + days + ", 0)", x.advise(days, 0), t);
        c.due(when + ": advise(" + days + ", 1)", x.advise(days, 1), f);
        c.due(when + ": advise(" + days + ", 2)", x.advise(days, 2), height);
    }

    private static void dueNone(Checks c, String when, PaddyTerraces x, int days) {
        due(c, when, x, days, -1, -1, -1);
    }

    /**
     * 30 of rain are to come: a crop of the age 20 drowns 28 deep behind its stone of 30, grows as well 8 or 18 deep
     * behind one of 10 or 20, and is dry behind one of 0. What comes from above then makes no difference.
     */
    private static PaddyTerraces beforeTheRain(int h, int w, int[]... crops) {
        PaddyTerraces x = Slopes.withoutWeather(h, w);
        x.setDay(0, 30, 0, 0);
        for (int[] at : crops) {
            x.plant(at[0], at[1], 20);
        }
        return x;
    }

    private static void inTheOrderOfFields(Checks c) {
        int[] a = {0, 0};
        int[] b = {0, 1};
        int[] d = {1, 0};
        int[] e = {1, 1};
        due(c, "all planted", beforeTheRain(2, 2, a, b, d, e), 1, 0, 0, 10);
        due(c, "all but the first", beforeTheRain(2, 2, b, d, e), 1, 0, 1, 10);
        due(c, "terraces come before columns", beforeTheRain(2, 2, e, d), 1, 1, 0, 10);
        due(c, "terrace 0 comes before column 0", beforeTheRain(2, 2, d, b), 1, 0, 1, 10);
        due(c, "only the last one", beforeTheRain(2, 2, e), 1, 1, 1, 10);
        for (int[] size : Slopes.SIZES) {
            int t = size[0] - 1;
            int f = size[1] - 1;
            int[] last = {t, f};
            due(c, "the last field of " + size[0] + " by " + size[1], beforeTheRain(size[0], size[1], last), 1, t, f,
                10);
        }
    }

    private static void heightsUpToTheBank(Checks c) {
        due(c, "the bank 20 is looked at", forTheBank(20, 4), 1, 0, 0, 20);
        dueNone(c, "the bank 24 is not looked at", forTheBank(24, 7), 1);
        dueNone(c, "the bank 29 is not looked at", forTheBank(29, 9), 1);
        due(c, "the bank 30 is looked at", forTheBank(30, 9), 1, 0, 0, 30);
        due(c, "of the bank 31, 30 is looked at", forTheBank(31, 9), 1, 0, 0, 30);
        due(c, "of the bank 119, 110 is the last", flooded(119), 1, 1, 0, 10);
        due(c, "the bank 120 is looked at", flooded(120), 1, 0, 0, 120);

        PaddyTerraces x = Slopes.withoutWeather(2, 2);
        x.setField(0, 0, 60, 0);
        x.plant(0, 0, 0);
        x.setDay(0, 43, 0, 0);
        due(c, "only the stone at 0 lets the young crop look out", x, 1, 0, 0, 0);
    }

    /**
     * 40 of rain are to come, and its stone is at 0: a crop stays dry unless more is kept back than 15 by the sun and
     * this seepage.
     */
    private static PaddyTerraces forTheBank(int bank, int seepage) {
        PaddyTerraces x = Slopes.withoutWeather(2, 2);
        x.setDay(0, 40, 0, 15);
        x.setField(0, 0, bank, seepage);
        x.moveStone(0, 0, 0);
        x.plant(0, 0, 20);
        return x;
    }

    /**
     * 125 are to stand above a crop that bears 19, and 5 of rain to fall on it: of the heights of the upper stone only
     * 120 keeps enough back.
     */
    private static PaddyTerraces flooded(int bank) {
        PaddyTerraces x = Slopes.withoutWeather(2, 2);
        Slopes.close(x, 0, 0);
        Slopes.close(x, 1, 0);
        x.setShare(0, 1);
        Slopes.passOne(x, 0, 120, 0);
        x.setField(0, 0, bank, 0);
        x.moveStone(0, 0, 110);
        x.plant(1, 0, 20);
        x.setDay(1, 5, 0, 0);
        return x;
    }

    /** Two crops would both be saved by two moves; the advice is one of them, and then the other one. */
    private static void oneStoneAloneIsMoved(Checks c) {
        PaddyTerraces x = beforeTheRain(2, 2, new int[] {0, 1}, new int[] {1, 0});
        due(c, "none is moved", x, 1, 0, 1, 10);
        c.due("what is looked at is not moved: field(0, 1, 3)", x.field(0, 1, 3), 30);
        x.moveStone(0, 1, 10);
        due(c, "the first one is moved", x, 1, 1, 0, 10);
        x.moveStone(1, 0, 10);
        dueNone(c, "both are moved", x, 1);
    }

    /**
     * A hard crop stands so deep above one that is dry for 4 days. If the upper stone is moved from 120 down to 0, the
     * lower one is saved, but the upper one falls dry.
     */
    private static PaddyTerraces aboveADryCrop(int depth) {
        PaddyTerraces x = Slopes.withoutWeather(2, 2);
        Slopes.close(x, 0, 0);
        x.plant(0, 0, 20);
        Slopes.rainOnce(x, depth);
        x.pass(19);
        x.plant(1, 0, 20);
        x.pass(4);
        return x;
    }

    private static void mostCropsBeforeHardness(Checks c) {
        PaddyTerraces x = aboveADryCrop(9);
        c.due("left: foresee(1, 0)", x.foresee(1, 0), 1);
        c.due("left: foresee(1, 1)", x.foresee(1, 1), 48 + 2);
        due(c, "more crops, less hardness", x, 1, 0, 0, 0);
        x.moveStone(0, 0, 0);
        c.due("moved: foresee(1, 0)", x.foresee(1, 0), 2);
        c.due("moved: foresee(1, 1)", x.foresee(1, 1), 48 - 3 + 2);
        dueNone(c, "fewer crops, more hardness", x, 1);
    }

    /** With the stone at 0 both live, but the upper one is dry; at 10 both are harder by 2. */
    private static void greatestSumOfHardness(Checks c) {
        PaddyTerraces x = aboveADryCrop(18);
        due(c, "the sum 52, not 47", x, 1, 0, 0, 10);
        x.moveStone(0, 0, 0);
        c.due("at 0: foresee(1, 0)", x.foresee(1, 0), 2);
        c.due("at 0: foresee(1, 1)", x.foresee(1, 1), 47);
        due(c, "better by the sum alone", x, 1, 0, 0, 10);
        x.moveStone(0, 0, 10);
        c.due("at 10: foresee(1, 1)", x.foresee(1, 1), 52);
        dueNone(c, "the best already", x, 1);
    }

    /** The heights 10 and 20 are as good as one another, and so are both fields. */
    private static void firstThatWasLookedAt(Checks c) {
        int[] a = {0, 0};
        int[] e = {1, 1};
        due(c, "the first field and height", beforeTheRain(2, 2, e, a), 1, 0, 0, 10);
        due(c, "the first height of the last field", beforeTheRain(2, 2, e), 1, 1, 1, 10);
        PaddyTerraces x = beforeTheRain(2, 2, e);
        c.due("foresee(1, 1) at 30", x.foresee(1, 1), 0);
        x.moveStone(1, 1, 10);
        c.due("foresee(1, 1) at 10", x.foresee(1, 1), 2);
        x.moveStone(1, 1, 20);
        c.due("foresee(1, 1) at 20", x.foresee(1, 1), 2);
    }

    private static void nothingThatIsNotBetter(Checks c) {
        PaddyTerraces x = beforeTheRain(2, 2, new int[] {1, 1});
        x.moveStone(1, 1, 20);
        dueNone(c, "10 is as good as 20", x, 1);
        x.moveStone(1, 1, 10);
        dueNone(c, "20 is as good as 10", x, 1);
        x.moveStone(1, 1, 15);
        dueNone(c, "10 is as good as 15, which is no step", x, 1);
        x.moveStone(1, 1, 21);
        dueNone(c, "10 is as good as 21, which is no step", x, 1);
        x.moveStone(1, 1, 22);
        due(c, "10 is better than 22, by the sum", x, 1, 1, 1, 10);
        due(c, "better by fields", aboveADryCrop(9), 1, 0, 0, 0);
    }

    /**
     * 45 are kept above a crop on dry ground. For a day, 15 of it are best; for ten days, 25: they drown the crop on
     * two of them, but last for all of them.
     */
    private static void oneDayAndTen(Checks c) {
        PaddyTerraces x = Slopes.withoutWeather(2, 2);
        Slopes.close(x, 0, 0);
        Slopes.rainOnce(x, 45);
        x.pass(18);
        x.plant(1, 0, 20);
        due(c, "one day", x, 1, 0, 0, 30);
        due(c, "ten days", x, 10, 0, 0, 20);
        x.moveStone(0, 0, 20);
        c.due("moved to 20: foresee(10, 1)", x.foresee(10, 1), 8 * 2);
        dueNone(c, "ten days, moved to 20", x, 10);
        x.moveStone(0, 0, 30);
        c.due("moved to 30: foresee(10, 1)", x.foresee(10, 1), 5 * 2 + 2 - 3 * 3);
        dueNone(c, "one day, moved to 30", x, 1);
    }

    private static void terraceColumnAndHeight(Checks c) {
        PaddyTerraces x = beforeTheRain(3, 4, new int[] {2, 3});
        c.due("advise(1, 0)", x.advise(1, 0), 2);
        c.due("advise(1, 1)", x.advise(1, 1), 3);
        c.due("advise(1, 2)", x.advise(1, 2), 10);
    }

    private static void minus1IfAllHadBestBeLeft(Checks c) {
        dueNone(c, "a new slope", new PaddyTerraces(), 1);
        dueNone(c, "a new slope", new PaddyTerraces(), 10);
        dueNone(c, "the largest slope", Slopes.ofSize(8, 8), 10);
        PaddyTerraces x = Slopes.fiveDeep();
        x.plant(0, 0, 20);
        x.plant(0, 1, 20);
        dueNone(c, "crops that grow as well as they can", x, 10);
        PaddyTerraces y = Slopes.withoutWeather(2, 2);
        y.plant(0, 0, 20);
        y.pass(4);
        dueNone(c, "a crop that no stone can save", y, 1);
    }

    private static void refusedIfDaysIsNot1To10(Checks c) {
        due(c, "taken", beforeTheRain(2, 2, new int[] {1, 1}), 1, 1, 1, 10);
        dueNone(c, "taken", Slopes.withoutWeather(2, 2), 10);
        int[] wrong = {0, 11, -1, 20, Integer.MAX_VALUE, Integer.MIN_VALUE};
        for (int days : wrong) {
            c.refusedArgument("advise(" + days + ", 0)", Slopes::busy, x -> x.advise(days, 0));
            c.refusedArgument("advise(" + days + ", 3)", Slopes::busy, x -> x.advise(days, 3));
            c.refusedArgument("advise(" + days + ", -1) on day 2000", () -> Slopes.onDay(2000),
                x -> x.advise(days, -1));
        }
    }

    private static void refusedIfWhatIsNot0To2(Checks c) {
        due(c, "taken", beforeTheRain(2, 2, new int[] {1, 1}), 1, 1, 1, 10);
        int[] wrong = {-1, 3, 4, Integer.MAX_VALUE, Integer.MIN_VALUE};
        for (int what : wrong) {
            c.refusedIndex("advise(1, " + what + ")", Slopes::busy, x -> x.advise(1, what));
            c.refusedIndex("advise(10, " + what + ")", Slopes::busy, x -> x.advise(10, what));
            c.refusedIndex("advise(10, " + what + ") on day 2000", () -> Slopes.onDay(2000),
                x -> x.advise(10, what));
            c.refusedIndex("advise(1, " + what + ") of nothing", PaddyTerraces::new, x -> x.advise(1, what));
        }
    }

    private static void refusedBeyondDay2000(Checks c) {
        int[][] dayAndDays = {{1990, 10}, {1991, 9}, {1999, 1}};
        for (int[] row : dayAndDays) {
            dueNone(c, "on day " + row[0], Slopes.onDay(row[0]), row[1]);
        }
        int[][] tooFar = {{1991, 10}, {1992, 9}, {1999, 2}, {2000, 1}, {2000, 10}};
        for (int[] row : tooFar) {
            c.refusedState("advise(" + row[1] + ", 0) on day " + row[0], () -> Slopes.onDay(row[0]),
                x -> x.advise(row[1], 0));
            c.refusedState("advise(" + row[1] + ", 2) on day " + row[0], () -> Slopes.onDay(row[0]),
                x -> x.advise(row[1], 2));
        }
    }
}
