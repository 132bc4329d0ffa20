/** Promise 13: the boundaries of weather. */
public final class P13WeatherBoundsTest {
    public static void main(String[] args) {
        sentences().run();
    }

    static Sentences sentences() {
        Sentences s = Sentences.ofPromise(13);
        s.test("a day of the calendar, 0 to 29", P13WeatherBoundsTest::aDayOfTheCalendar);
        s.test("0 its rain, 1 its spring, 2 its draught", P13WeatherBoundsTest::leastAndMost);
        s.test("if day is not 0 to 29", P13WeatherBoundsTest::refusedIfDayIsNot0To29);
        s.test("or what is not 0 to 2", P13WeatherBoundsTest::refusedIfWhatIsNot0To2);
        return s;
    }

    /** It is the calendar's day, whatever the day of the slope is. */
    private static void aDayOfTheCalendar(Checks c) {
        int[] days = {0, 1, 29, 30, 31, 2000};
        for (int day : days) {
            PaddyTerraces x = Slopes.onDay(day);
            x.setDay(0, 1, 2, 3);
            x.setDay(29, 4, 5, 6);
            c.due("on day " + day + ": weather(0, 0)", x.weather(0, 0), 1);
            c.due("on day " + day + ": weather(0, 2)", x.weather(0, 2), 3);
            c.due("on day " + day + ": weather(29, 0)", x.weather(29, 0), 4);
            c.due("on day " + day + ": weather(29, 1)", x.weather(29, 1), 5);
        }
    }

    private static void leastAndMost(Checks c) {
        int[][] weathers = {{0, 0, 0}, {60, 400, 20}};
        for (int[] row : weathers) {
            PaddyTerraces x = new PaddyTerraces();
            x.setDay(29, row[0], row[1], row[2]);
            for (int what = 0; what <= 2; what++) {
                c.due("weather(29, " + what + ")", x.weather(29, what), row[what]);
            }
        }
    }

    private static void refusedIfDayIsNot0To29(Checks c) {
        c.due("weather(0, 2)", Slopes.busy().weather(0, 2), 0);
        c.due("weather(29, 2)", Slopes.busy().weather(29, 2), 20);
        int[] wrong = {-1, 30, 31, Integer.MAX_VALUE, Integer.MIN_VALUE};
        for (int day : wrong) {
            for (int what = -1; what <= 3; what++) {
                int number = what;
                c.refusedIndex("weather(" + day + ", " + what + ")", Slopes::busy, x -> x.weather(day, number));
            }
        }
    }

    private static void refusedIfWhatIsNot0To2(Checks c) {
        c.due("weather(29, 0)", Slopes.busy().weather(29, 0), 60);
        c.due("weather(29, 2)", Slopes.busy().weather(29, 2), 20);
        int[] wrong = {-1, 3, 4, Integer.MAX_VALUE, Integer.MIN_VALUE};
        for (int what : wrong) {
            c.refusedIndex("weather(0, " + what + ")", Slopes::busy, x -> x.weather(0, what));
            c.refusedIndex("weather(29, " + what + ")", Slopes::busy, x -> x.weather(29, what));
        }
    }
}
