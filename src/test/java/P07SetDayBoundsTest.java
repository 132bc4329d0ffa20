/** Promise 7: the boundaries of setDay. */
public final class P07SetDayBoundsTest {
    public static void main(String[] args) {
        sentences().run();
    }

    static Sentences sentences() {
        Sentences s = Sentences.ofPromise(7);
        s.test("Returns the spring before.", P07SetDayBoundsTest::returnsTheSpringBefore);
        s.test("the day of the calendar, 0 to 29", P07SetDayBoundsTest::daysOfTheCalendar);
        s.test("if day is not 0 to 29", P07SetDayBoundsTest::refusedIfDayIsNot0To29);
        s.test("if rain is not 0 to 60, spring is not 0 to 400, or draught is not 0 to 20",
            P07SetDayBoundsTest::refusedIfWeatherIsNotInBounds);
        return s;
    }

    private static void returnsTheSpringBefore(Checks c) {
        PaddyTerraces x = new PaddyTerraces();
        c.due("at first", x.setDay(29, 1, 400, 2), 60);
        c.due("after 400", x.setDay(29, 60, 0, 20), 400);
        c.due("after 0", x.setDay(29, 3, 5, 4), 0);
        c.due("after 5", x.setDay(29, 3, 5, 4), 5);
        c.due("another day", x.setDay(0, 3, 5, 4), 60);
    }

    /** Only the day that is named is set. */
    private static void daysOfTheCalendar(Checks c) {
        int[] days = {0, 1, 28, 29};
        for (int set : days) {
            PaddyTerraces x = new PaddyTerraces();
            x.setDay(set, 7, 8, 9);
            for (int day = 0; day < 30; day++) {
                String when = "day " + set + " is set: day " + day;
                c.due(when + ", rain", x.weather(day, 0), day == set ? 7 : 0);
                c.due(when + ", spring", x.weather(day, 1), day == set ? 8 : 60);
                c.due(when + ", draught", x.weather(day, 2), day == set ? 9 : 3);
            }
        }
    }

    private static void refusedIfDayIsNot0To29(Checks c) {
        PaddyTerraces x = new PaddyTerraces();
        c.due("setDay(0, 1, 1, 1)", x.setDay(0, 1, 1, 1), 60);
        c.due("setDay(29, 1, 1, 1)", x.setDay(29, 1, 1, 1), 60);
        int[] wrong = {-1, 30, 31, 60, -30, Integer.MAX_VALUE, Integer.MIN_VALUE};
        for (int day : wrong) {
            int[][] weathers = {{1, 1, 1}, {61, 1, 1}, {1, 401, 1}, {1, 1, 21}, {-1, -1, -1}};
            for (int[] weather : weathers) {
                c.refusedIndex("setDay(" + day + ", " + told(weather) + ")", Slopes::busy,
                    y -> y.setDay(day, weather[0], weather[1], weather[2]));
            }
        }
    }

    private static String told(int[] weather) {
        return weather[0] + ", " + weather[1] + ", " + weather[2];
    }

    private static void refusedIfWeatherIsNotInBounds(Checks c) {
        int[][] good = {{0, 0, 0}, {60, 0, 0}, {0, 400, 0}, {0, 0, 20}, {60, 400, 20}};
        for (int[] row : good) {
            PaddyTerraces x = Slopes.busy();
            String call = "setDay(22, " + told(row) + ")";
            c.due(call, x.setDay(22, row[0], row[1], row[2]), 150);
            for (int what = 0; what <= 2; what++) {
                c.due(call + ": weather(22, " + what + ")", x.weather(22, what), row[what]);
            }
        }
        int[][] wrong = {{-1, 0, 0}, {61, 0, 0}, {0, -1, 0}, {0, 401, 0}, {0, 0, -1}, {0, 0, 21}, {61, 400, 20},
            {60, 401, 20}, {60, 400, 21}, {400, 20, 60}, {Integer.MAX_VALUE, 0, 0}, {Integer.MIN_VALUE, 0, 0},
            {0, Integer.MAX_VALUE, 0}, {0, Integer.MIN_VALUE, 0}, {0, 0, Integer.MAX_VALUE},
            {0, 0, Integer.MIN_VALUE}};
        for (int[] row : wrong) {
            c.refusedArgument("setDay(22, " + told(row) + ")", Slopes::busy,
                x -> x.setDay(22, row[0], row[1], row[2]));
        }
    }
}
