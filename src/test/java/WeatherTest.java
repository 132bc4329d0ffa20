/** Promise 13: weather. */
public final class WeatherTest {
    public static void main(String[] args) {
        Checks c = new Checks();
        PaddyTerraces x = new PaddyTerraces();
        for (int day = 0; day < 30; day++) {
            x.setDay(day, day, 400 - day, day % 21);
        }
        for (int day = 0; day < 30; day++) {
            c.due("weather(" + day + ", 0)", x.weather(day, 0), day);
            c.due("weather(" + day + ", 1)", x.weather(day, 1), 400 - day);
            c.due("weather(" + day + ", 2)", x.weather(day, 2), day % 21);
        }
        x.pass(7);
        c.due("weather(0, 1) on day 7", x.weather(0, 1), 400);
        int[][] wrong = {{-1, 0}, {30, 0}, {0, -1}, {0, 3}, {29, 3}, {Integer.MAX_VALUE, 0},
            {Integer.MIN_VALUE, 0}, {0, Integer.MAX_VALUE}, {0, Integer.MIN_VALUE}};
        for (int[] bad : wrong) {
            c.dueIndex("weather(" + bad[0] + ", " + bad[1] + ")", x, () -> x.weather(bad[0], bad[1]));
        }
        c.end();
    }
}
