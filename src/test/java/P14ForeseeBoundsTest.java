/** Promise 14: the boundaries of foresee. */
public final class P14ForeseeBoundsTest {
    public static void main(String[] args) {
        sentences().run();
    }

    static Sentences sentences() {
        Sentences s = Sentences.ofPromise(14);
        s.test("how many, 1 to 20", P14ForeseeBoundsTest::oneDayAndTwenty);
        s.test("0 the number of fields with a crop then, 1 the sum of the hardness of all these, 2 what comes to the"
            + " brook in these days, 3 the depths of all fields together then", P14ForeseeBoundsTest::noneAndAll);
        s.test("Returns this, if so many days went by from now on", P14ForeseeBoundsTest::ifSoManyDaysWentBy);
        s.test("(nothing is changed)", P14ForeseeBoundsTest::nothingIsChanged);
        s.test("if days is not 1 to 20", P14ForeseeBoundsTest::refusedIfDaysIsNot1To20);
        s.test("if what is not 0 to 3", P14ForeseeBoundsTest::refusedIfWhatIsNot0To3);
        s.test("if the day would be greater than 2000", P14ForeseeBoundsTest::refusedBeyondDay2000);
        return s;
    }

    private static void due(Checks c, String when, PaddyTerraces x, int days, int... want) {
        for (int what = 0; what < want.length; what++) {
            c.due(when + ": foresee(" + days + ", " + what + ")", x.foresee(days, what), want[what]);
        }
    }

    /** The dry crop dies on the fifth day; the other one, 5 deep, becomes harder by 2 each day. */
    private static void oneDayAndTwenty(Checks c) {
        PaddyTerraces x = Slopes.allFiveDeep(2, 2);
        x.setField(1, 1, 60, 9);
        x.plant(0, 0, 20);
        x.plant(1, 1, 20);
        due(c, "from day 0", x, 1, 2, 2, 0, 15);
        due(c, "from day 0", x, 4, 2, 8, 0, 15);
        due(c, "from day 0", x, 5, 1, 10, 0, 15);
        due(c, "from day 0", x, 20, 1, 40, 0, 15);
    }

    /** Without water and crops all is 0; with all fields planted and 20 of rain a day, all count. */
    private static void noneAndAll(Checks c) {
        due(c, "nothing there", Slopes.withoutWeather(2, 2), 20, 0, 0, 0, 0);
        for (int[] size : Slopes.SIZES) {
            int h = size[0];
            int w = size[1];
            PaddyTerraces x = Slopes.withoutWeather(h, w);
            for (int cell = 0; cell < h * w; cell++) {
                x.plant(cell / w, cell % w, 20);
            }
            x.setDay(0, 20, 0, 0);
            due(c, h + " by " + w + ", all planted", x, 1, h * w, 2 * h * w, 0, 18 * h * w);
        }
        PaddyTerraces x = Slopes.withoutWeather(2, 2);
        Slopes.rainOnce(x, 60);
        c.due("the brook of the day before", x.count(5), 2 * 40);
        // 28 above and 48 below are left; of these 18 each go out on the next day.
        due(c, "only the brook of these days", x, 1, 0, 0, 2 * 18, 2 * 26 + 2 * 28);
        due(c, "only the brook of these days", x, 20, 0, 0, 2 * 18, 0);
    }

    private static void ifSoManyDaysWentBy(Checks c) {
        int[] days = {1, 2, 19, 20};
        for (int some : days) {
            dueComesTrue(c, some, 0);
            dueComesTrue(c, some, 25);
        }
    }

    /** Also across the end of the calendar, which begins anew. */
    private static void dueComesTrue(Checks c, int days, int passed) {
        PaddyTerraces x = Slopes.busy();
        if (passed > 0) {
            x.pass(passed);
            x.plant(0, 2, 20);
        }
        int crops = x.foresee(days, 0);
        int hardness = x.foresee(days, 1);
        int brook = x.foresee(days, 2);
        int depths = x.foresee(days, 3);
        int before = x.count(5);
        c.due("pass(" + days + ")", x.pass(days), crops);
        int sum = 0;
        for (int cell = 0; cell < 6; cell++) {
            sum += x.field(cell / 3, cell % 3, 7);
        }
        c.due("the hardness after " + days + " days", sum, hardness);
        c.due("the brook of " + days + " days", x.count(5) - before, brook);
        c.due("count(4) after " + days + " days", x.count(4), depths);
    }

    private static void nothingIsChanged(Checks c) {
        c.dueSame("after all kinds of foresee", () -> {
            PaddyTerraces x = Slopes.busy();
            for (int what = 0; what <= 3; what++) {
                x.foresee(1, what);
                x.foresee(20, what);
            }
            return x;
        }, Slopes::busy);
    }

    private static void refusedIfDaysIsNot1To20(Checks c) {
        c.due("foresee(1, 0)", Slopes.busy().foresee(1, 0) >= 0 ? 1 : 0, 1);
        c.due("foresee(20, 0)", Slopes.busy().foresee(20, 0) >= 0 ? 1 : 0, 1);
        int[] wrong = {0, 21, -1, 60, Integer.MAX_VALUE, Integer.MIN_VALUE};
        for (int days : wrong) {
            c.refusedArgument("foresee(" + days + ", 0)", Slopes::busy, x -> x.foresee(days, 0));
            c.refusedArgument("foresee(" + days + ", 4)", Slopes::busy, x -> x.foresee(days, 4));
            c.refusedArgument("foresee(" + days + ", -1) on day 2000", () -> Slopes.onDay(2000),
                x -> x.foresee(days, -1));
        }
    }

    private static void refusedIfWhatIsNot0To3(Checks c) {
        c.due("foresee(1, 0)", Slopes.fiveDeep().foresee(1, 0), 0);
        c.due("foresee(1, 3)", Slopes.fiveDeep().foresee(1, 3), 2 * 5 + 2 * 15);
        int[] wrong = {-1, 4, 5, Integer.MAX_VALUE, Integer.MIN_VALUE};
        for (int what : wrong) {
            c.refusedIndex("foresee(1, " + what + ")", Slopes::busy, x -> x.foresee(1, what));
            c.refusedIndex("foresee(20, " + what + ")", Slopes::busy, x -> x.foresee(20, what));
            c.refusedIndex("foresee(20, " + what + ") on day 2000", () -> Slopes.onDay(2000),
                x -> x.foresee(20, what));
        }
    }

    private static void refusedBeyondDay2000(Checks c) {
        int[][] dayAndDays = {{1980, 20}, {1981, 19}, {1999, 1}};
        for (int[] row : dayAndDays) {
            PaddyTerraces x = Slopes.onDay(row[0]);
            int depths = x.foresee(row[1], 3);
            x.pass(row[1]);
            c.due("foresee(" + row[1] + ", 3) on day " + row[0], depths, x.count(4));
        }
        int[][] tooFar = {{1981, 20}, {1982, 19}, {1999, 2}, {2000, 1}, {2000, 20}};
        for (int[] row : tooFar) {
            c.refusedState("foresee(" + row[1] + ", 0) on day " + row[0], () -> Slopes.onDay(row[0]),
                x -> x.foresee(row[1], 0));
            c.refusedState("foresee(" + row[1] + ", 3) on day " + row[0], () -> Slopes.onDay(row[0]),
                x -> x.foresee(row[1], 3));
        }
    }
}
