/** Promise 9: the boundaries of reap. */
public final class P09ReapBoundsTest {
    public static void main(String[] args) {
        sentences().run();
    }

    static Sentences sentences() {
        Sentences s = Sentences.ofPromise(9);
        s.test("Reaps a field; it is fallow then.", P09ReapBoundsTest::itIsFallowThen);
        s.test("Returns what is reaped: age * hardness / 100", P09ReapBoundsTest::ageByHardnessCut);
        s.test("and a half more of that (cut), if the depth is 0", P09ReapBoundsTest::aHalfMoreIfTheDepthIs0);
        s.test("if there is no such field", P09ReapBoundsTest::refusedIfThereIsNoSuchField);
        s.test("if it is fallow", P09ReapBoundsTest::refusedIfItIsFallow);
        s.test("or the age of the crop is less than 40", P09ReapBoundsTest::refusedIfTheAgeIsLessThan40);
        return s;
    }

    private static void itIsFallowThen(Checks c) {
        PaddyTerraces x = Slopes.fiveDeep();
        x.plant(0, 0, 20);
        x.plant(0, 1, 20);
        x.pass(20);
        x.reap(0, 0);
        c.dueField("reaped", x, 0, 0, 5, 60, 2, 10, 0, 0, 0, 0, 0, 0, 25, 0);
        c.dueField("not reaped", x, 0, 1, 5, 60, 2, 10, 0, 1, 40, 40, 0, 0, 25, 0);
        c.due("count(3)", x.count(3), 1);
        c.due("count(7): a reaped crop did not die", x.count(7), 0);
        c.due("pass(1)", x.pass(1), 1);
        c.due("it stays fallow", x.field(0, 0, 6), 0);
    }

    /** A crop of the age 20 that stands 5 deep is harder by 2 on each day: 53 * 66 are 2 less than 3500. */
    private static void ageByHardnessCut(Checks c) {
        int[][] daysAndHarvest = {{20, 16}, {21, 17}, {22, 18}, {23, 19}, {30, 30}, {33, 34}, {47, 62}, {50, 70},
            {51, 71}, {60, 80}};
        for (int[] row : daysAndHarvest) {
            PaddyTerraces x = Slopes.fiveDeep();
            x.plant(0, 0, 20);
            x.pass(row[0]);
            c.due("reap after " + row[0] + " days", x.reap(0, 0), row[1]);
            c.due("count(6)", x.count(6), row[1]);
        }
        c.due("the age 40 and the hardness 1: cut to 0", barelyAlive(20).reap(0, 0), 0);
        PaddyTerraces none = barelyAlive(21);
        c.due("the hardness 0", none.field(0, 0, 7), 0);
        c.due("reap at the hardness 0", none.reap(0, 0), 0);
        c.due("it is reaped all the same", none.count(3), 0);
    }

    /** Of five days the crop is dry on four, and 1 deep on the last one. */
    private static PaddyTerraces barelyAlive(int days) {
        PaddyTerraces x = Slopes.withoutWeather(2, 2);
        Slopes.close(x, 0, 0);
        for (int day = 0; day < 30; day++) {
            x.setDay(day, day % 5 == 4 ? 1 : 0, 0, day % 5 == 4 ? 0 : 1);
        }
        x.plant(0, 0, 20);
        x.pass(days);
        return x;
    }

    private static void aHalfMoreIfTheDepthIs0(Checks c) {
        PaddyTerraces dry = ripe(5, 1);
        c.dueField("a dry day", dry, 0, 0, 0, 120, 5, 120, 0, 1, 41, 37, 0, 1);
        c.due("of 15, the half cut", dry.reap(0, 0), 15 + 7);
        c.due("count(6)", dry.count(6), 22);
        PaddyTerraces longDry = ripe(5, 2);
        c.due("field(0, 0, 7)", longDry.field(0, 0, 7), 34);
        c.due("of 14, the half even", longDry.reap(0, 0), 14 + 7);
        PaddyTerraces cutFirst = grown(22, 5, 1);
        c.dueField("of 43 * 41", cutFirst, 0, 0, 0, 120, 5, 120, 0, 1, 43, 41, 0, 1);
        c.due("of 17, not of 17.63, the half cut", cutFirst.reap(0, 0), 17 + 8);
        PaddyTerraces wet = ripe(4, 1);
        c.dueField("1 deep", wet, 0, 0, 1, 120, 4, 120, 0, 1, 41, 41, 0, 0);
        c.due("of 16, nothing more", wet.reap(0, 0), 16);
        PaddyTerraces drained = ripe(0, 0);
        drained.moveStone(0, 0, 0);
        c.due("a moved stone does not dry the field before a day went by", drained.reap(0, 0), 16);
    }

    /** A crop of the age 40 and the hardness 40, 5 deep, that seeps so much for some days more. */
    private static PaddyTerraces ripe(int seepage, int days) {
        return grown(20, seepage, days);
    }

    /** A crop planted at the age 20 that stood 5 deep for so long, and seeps so much for some days more. */
    private static PaddyTerraces grown(int daysBefore, int seepage, int days) {
        PaddyTerraces x = Slopes.withoutWeather(2, 2);
        Slopes.close(x, 0, 0);
        x.plant(0, 0, 20);
        Slopes.rainOnce(x, 5);
        x.pass(daysBefore - 1);
        x.setField(0, 0, 120, seepage);
        if (days > 0) {
            x.pass(days);
        }
        return x;
    }

    private static void refusedIfThereIsNoSuchField(Checks c) {
        Slopes.dueNoSuchField(c, "reap", P09ReapBoundsTest::ripeCorners, (x, t, f) -> x.reap(t, f));
    }

    private static PaddyTerraces ripeCorners(int h, int w) {
        PaddyTerraces x = Slopes.allFiveDeep(h, w);
        x.plant(0, 0, 20);
        x.plant(0, w - 1, 20);
        x.plant(h - 1, 0, 20);
        x.plant(h - 1, w - 1, 20);
        x.pass(20);
        return x;
    }

    private static void refusedIfItIsFallow(Checks c) {
        c.refusedState("never planted", PaddyTerraces::new, x -> x.reap(0, 0));
        c.refusedState("beside ripe crops", () -> ripeCorners(3, 3), x -> x.reap(1, 1));
        c.refusedState("reaped before", () -> {
            PaddyTerraces x = ripeCorners(2, 2);
            x.reap(1, 1);
            return x;
        }, x -> x.reap(1, 1));
        c.refusedState("died before", () -> {
            PaddyTerraces x = ripe(5, 4);
            x.pass(1);
            return x;
        }, x -> x.reap(0, 0));
        c.due("a day before it dies", ripe(5, 4).reap(0, 0) > 0 ? 1 : 0, 1);
    }

    private static void refusedIfTheAgeIsLessThan40(Checks c) {
        c.refusedState("at the age 0", () -> aged(0, 0), x -> x.reap(0, 0));
        c.refusedState("at the age 20", () -> aged(20, 0), x -> x.reap(0, 0));
        c.refusedState("at the age 39", () -> aged(20, 19), x -> x.reap(0, 0));
        c.refusedState("at the age 39, planted as 19", () -> aged(19, 20), x -> x.reap(0, 0));
        c.due("at the age 40", aged(20, 20).reap(0, 0), 16);
        c.due("at the age 40, planted as 0", aged(0, 40).reap(0, 0), 40 * 80 / 100);
        c.due("at the age 41", aged(20, 21).reap(0, 0), 17);
    }

    private static PaddyTerraces aged(int age, int days) {
        PaddyTerraces x = Slopes.fiveDeep();
        x.plant(0, 0, age);
        if (days > 0) {
            x.pass(days);
        }
        return x;
    }
}
