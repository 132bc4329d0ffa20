/** Promise 10: the boundaries of a day's weather, and of the calendar that tells it ahead. */
public final class P10DayWeatherBoundsTest {
    public static void main(String[] args) {
        sentences().run();
    }

    static Sentences sentences() {
        Sentences s = Sentences.ofSection("Terms", "Promise 10");
        s.test("The rain of this day falls on each field: its depth is greater by it.",
            P10DayWeatherBoundsTest::rainFallsOnEachField);
        s.test("The spring brings its water to terrace 0", P10DayWeatherBoundsTest::springComesToTerrace0);
        s.test("each gets spring * share / (the sum of all shares), cut", P10DayWeatherBoundsTest::eachGetsItsShareCut);
        s.test("all is lost if the sum is 0", P10DayWeatherBoundsTest::allIsLostIfTheSumIs0);
        s.test("(what is lost, also by the cut, does not come to the brook)",
            P10DayWeatherBoundsTest::whatIsLostDoesNotComeToTheBrook);
        s.test("a calendar of 30 days, one behind the other, and again and again",
            P10DayWeatherBoundsTest::theCalendarBeginsAnew);
        s.test("Day d has what the calendar has for its day number (d - 1), by the remainder of 30.",
            P10DayWeatherBoundsTest::dayDHasTheRemainder);
        return s;
    }

    private static void rainFallsOnEachField(Checks c) {
        int[] rains = {0, 1, 60};
        for (int[] size : Slopes.SIZES) {
            for (int rain : rains) {
                PaddyTerraces x = Slopes.withoutWeather(size[0], size[1]);
                Slopes.close(x, 0, 0);
                Slopes.close(x, size[0] - 1, size[1] - 1);
                Slopes.passOne(x, rain, 0, 0);
                c.due("the first field, rain " + rain, x.field(0, 0, 0), rain);
                // With 60, what goes out over the stone above comes to the last field as well, 8 terraces or 2.
                int fromAbove = rain == 60 ? size[0] == 2 ? 30 : 40 : 0;
                c.due("the last field, rain " + rain, x.field(size[0] - 1, size[1] - 1, 0), rain + fromAbove);
            }
        }
    }

    private static void springComesToTerrace0(Checks c) {
        PaddyTerraces x = Slopes.withoutWeather(3, 3);
        x.setShare(0, 1);
        x.setShare(1, 1);
        x.setShare(2, 1);
        Slopes.passOne(x, 0, 90, 0);
        c.dueDepths("spring 90, the seepage 2", x, 28, 28, 28, 0, 0, 0, 0, 0, 0);
        PaddyTerraces y = Slopes.withoutWeather(3, 3);
        y.setShare(2, 1);
        Slopes.passOne(y, 0, 0, 0);
        c.dueDepths("spring 0", y, 0, 0, 0, 0, 0, 0, 0, 0, 0);
    }

    private static void eachGetsItsShareCut(Checks c) {
        dueSpring(c, 1, new int[] {1, 1}, 0, 0);
        dueSpring(c, 2, new int[] {1, 1}, 1, 1);
        dueSpring(c, 61, new int[] {1, 1}, 30, 30);
        dueSpring(c, 100, new int[] {9, 0, 2, 3}, 64, 0, 14, 21);
        dueSpring(c, 13, new int[] {0, 1, 0}, 0, 13, 0);
        dueSpring(c, 120, new int[] {9, 0}, 120, 0);
        dueSpring(c, 10, new int[] {1, 9}, 1, 9);
        dueSpring(c, 9, new int[] {1, 9}, 0, 8);
        dueSpring(c, 400, new int[] {9, 9, 9, 9, 9, 9, 9, 9}, 50, 50, 50, 50, 50, 50, 50, 50);
        dueSpring(c, 399, new int[] {9, 9, 9, 9, 9, 9, 9, 9}, 49, 49, 49, 49, 49, 49, 49, 49);
        dueSpring(c, 7, new int[] {1, 1, 1, 1, 1, 1, 1, 1}, 0, 0, 0, 0, 0, 0, 0, 0);

        PaddyTerraces x = withShares(9, 0);
        x.moveStone(0, 0, 0);
        x.turn(0, 0, 1);
        Slopes.passOne(x, 0, 400, 0);
        c.due("all 400 for one field: field(0, 0, 11)", x.field(0, 0, 11), 400 - 40 - 120);
    }

    private static PaddyTerraces withShares(int... shares) {
        PaddyTerraces x = Slopes.withoutWeather(2, shares.length);
        for (int f = 0; f < shares.length; f++) {
            Slopes.close(x, 0, f);
            x.setShare(f, shares[f]);
        }
        return x;
    }

    private static void dueSpring(Checks c, int spring, int[] shares, int... want) {
        PaddyTerraces x = withShares(shares);
        Slopes.passOne(x, 0, spring, 0);
        c.dueDepths("spring " + spring + " for " + shares.length + " fields", x, want);
    }

    private static void allIsLostIfTheSumIs0(Checks c) {
        for (int[] size : Slopes.SIZES) {
            PaddyTerraces x = Slopes.withoutWeather(size[0], size[1]);
            Slopes.passOne(x, 0, 400, 0);
            c.due("no shares: count(4)", x.count(4), 0);
            c.due("no shares: count(5)", x.count(5), 0);
            x.setShare(size[1] - 1, 1);
            Slopes.close(x, 0, size[1] - 1);
            Slopes.passOne(x, 0, 100, 0);
            c.due("one share of 1: count(4)", x.count(4), 100);
        }
    }

    private static void whatIsLostDoesNotComeToTheBrook(Checks c) {
        PaddyTerraces x = withShares(1, 1, 1);
        Slopes.passOne(x, 0, 11, 0);
        c.dueDepths("11 for 3 fields", x, 3, 3, 3);
        c.due("count(5)", x.count(5), 0);
        c.due("foresee(20, 2)", x.foresee(20, 2), 0);
    }

    /** Of the calendar, one day alone has rain: it comes on this day of each 30. */
    private static void theCalendarBeginsAnew(Checks c) {
        int[] dates = {0, 1, 28, 29};
        for (int date : dates) {
            PaddyTerraces x = Slopes.withoutWeather(2, 2);
            x.setDay(date, 1, 0, 0);
            Slopes.close(x, 1, 1);
            for (int day = 1; day <= 91; day++) {
                x.pass(1);
                int rains = (day - 1 - date + 30) / 30;
                c.due("rain on the calendar's day " + date + ": depth on day " + day, x.field(1, 1, 0), rains);
            }
        }
    }

    /** Each day of the calendar has its own number as its spring, and one closed field gets all of it. */
    private static void dayDHasTheRemainder(Checks c) {
        int[][] dayAndSpring = {{1, 0}, {2, 1}, {29, 28}, {30, 29}, {31, 0}, {32, 1}, {60, 29}, {61, 0}, {1999, 18},
            {2000, 19}};
        for (int[] row : dayAndSpring) {
            PaddyTerraces x = Slopes.onDay(row[0] - 1);
            for (int date = 0; date < 30; date++) {
                x.setDay(date, 0, date, 0);
            }
            x.setShare(0, 0);
            Slopes.close(x, 0, 1);
            int before = x.field(0, 1, 0);
            x.pass(1);
            c.due("spring on day " + row[0], x.field(0, 1, 0) - before, row[1]);
        }
    }
}
