/** Promise 10: what the rice does on a day. */
public final class DayRiceTest {
    public static void main(String[] args) {
        Checks c = new Checks();
        heightOfYoungCrops(c);
        heightIsAtMost45(c);
        hardening(c);
        hardnessIsAtMost100(c);
        drownedAndDry(c);
        goodDaysBetween(c);
        onlyFieldsWithACropGrow(c);
        c.end();
    }

    /** A slope of 2 by 2 whose water changes by rain alone: no spring, no draught, and the field (0, 0) is closed. */
    private static PaddyTerraces still() {
        PaddyTerraces x = Slopes.withoutSpring(2, 2);
        Slopes.close(x, 0, 0);
        for (int day = 0; day < 30; day++) {
            x.setDay(day, 0, 0, 0);
        }
        return x;
    }

    private static void heightOfYoungCrops(Checks c) {
        int[][] ageAndHeight = {{0, 5}, {1, 6}, {2, 7}, {3, 7}, {9, 11}, {19, 18}, {20, 19}};
        for (int[] row : ageAndHeight) {
            String when = "age " + row[0] + " and a day";
            PaddyTerraces x = still();
            x.plant(0, 0, row[0]);
            Slopes.passOne(x, row[1], 0, 0);
            c.dueField(when + ", as deep as high", x, 0, 0, row[1], 120, 0, 120, 0, 1, row[0] + 1, 2, 0, 0);
            PaddyTerraces y = still();
            y.plant(0, 0, row[0]);
            Slopes.passOne(y, row[1] + 1, 0, 0);
            c.dueField(when + ", deeper than high", y, 0, 0, row[1] + 1, 120, 0, 120, 0, 1, row[0] + 1, 0, 1, 0);
        }
    }

    private static void heightIsAtMost45(Checks c) {
        PaddyTerraces x = still();
        x.plant(0, 0, 20);
        Slopes.passOne(x, 5, 0, 0);
        x.setDay(0, 0, 0, 0);
        x.pass(37);
        Slopes.passOne(x, 39, 0, 0);
        c.due("age", x.field(0, 0, 6), 59);
        c.due("depth", x.field(0, 0, 0), 44);
        c.due("44 deep at the age 59: days drowned", x.field(0, 0, 8), 0);
        Slopes.passOne(x, 1, 0, 0);
        c.due("45 deep at the age 60: days drowned", x.field(0, 0, 8), 0);
        x.pass(1);
        c.due("45 deep at the age 61: days drowned", x.field(0, 0, 8), 0);
        Slopes.passOne(x, 1, 0, 0);
        c.due("46 deep at the age 62: days drowned", x.field(0, 0, 8), 1);
        x.pass(2);
        c.due("46 deep at the age 64: days drowned", x.field(0, 0, 8), 3);
        c.due("46 deep at the age 65: pass(1)", x.pass(1), 0);

        PaddyTerraces y = still();
        y.plant(0, 0, 20);
        Slopes.passOne(y, 5, 0, 0);
        y.setDay(0, 0, 0, 0);
        y.pass(37);
        Slopes.passOne(y, 40, 0, 0);
        c.due("45 deep at the age 59: days drowned", y.field(0, 0, 8), 1);
    }

    /** A crop of the age 40, with the hardness 20 by the depth 4 till then, stands one day in this depth. */
    private static void hardening(Checks c) {
        int[][] depthAndHardness = {{4, 21}, {5, 22}, {6, 22}, {24, 22}, {25, 22}, {26, 21}, {32, 21}, {33, 17}};
        for (int[] row : depthAndHardness) {
            PaddyTerraces x = still();
            x.plant(0, 0, 20);
            Slopes.passOne(x, 4, 0, 0);
            x.setDay(0, 0, 0, 0);
            x.pass(19);
            c.due("4 deep for 20 days: hardness", x.field(0, 0, 7), 20);
            Slopes.passOne(x, row[0] - 4, 0, 0);
            c.due(row[0] + " deep: hardness", x.field(0, 0, 7), row[1]);
        }
        PaddyTerraces x = still();
        x.plant(0, 0, 20);
        Slopes.passOne(x, 4, 0, 0);
        Slopes.passOne(x, 0, 0, 3);
        c.dueField("1 deep", x, 0, 0, 1, 120, 0, 120, 0, 1, 22, 2, 0, 0);
        x.setField(0, 0, 120, 1);
        x.pass(1);
        c.dueField("dry", x, 0, 0, 0, 120, 1, 120, 0, 1, 23, 0, 0, 1);
    }

    private static void hardnessIsAtMost100(Checks c) {
        PaddyTerraces x = still();
        x.plant(0, 0, 0);
        Slopes.passOne(x, 4, 0, 0);
        x.setDay(0, 0, 0, 0);
        Slopes.passOne(x, 1, 0, 0);
        x.setDay(1, 0, 0, 0);
        x.pass(48);
        c.due("hardness after 50 days", x.field(0, 0, 7), 99);
        x.pass(1);
        c.due("hardness after 51 days", x.field(0, 0, 7), 100);
        x.pass(1);
        c.due("hardness after 52 days", x.field(0, 0, 7), 100);
        x.setField(0, 0, 120, 5);
        x.pass(1);
        c.due("hardness after a dry day", x.field(0, 0, 7), 97);
    }

    private static void drownedAndDry(Checks c) {
        PaddyTerraces x = still();
        x.plant(0, 0, 0);
        Slopes.passOne(x, 30, 0, 0);
        x.setDay(0, 0, 0, 0);
        x.pass(2);
        x.plant(1, 1, 0);
        c.dueField("drowned for 3 days", x, 0, 0, 30, 120, 0, 120, 0, 1, 3, 0, 3, 0);
        c.due("pass(1), the 4th day drowned", x.pass(1), 1);
        c.dueField("dead", x, 0, 0, 30, 120, 0, 120, 0, 0, 0, 0, 0, 0);
        c.due("count(7)", x.count(7), 1);

        PaddyTerraces y = still();
        y.plant(0, 0, 20);
        y.pass(4);
        c.dueField("dry for 4 days", y, 0, 0, 0, 120, 0, 120, 0, 1, 24, 0, 0, 4);
        c.due("count(7)", y.count(7), 0);
        c.due("pass(1), the 5th day dry", y.pass(1), 0);
        c.dueField("dead", y, 0, 0, 0, 120, 0, 120, 0, 0, 0, 0, 0, 0);
        c.due("count(7)", y.count(7), 1);
        y.plant(0, 0, 1);
        y.pass(5);
        c.due("count(7) of two", y.count(7), 2);
    }

    private static void goodDaysBetween(Checks c) {
        PaddyTerraces x = still();
        x.plant(0, 0, 0);
        x.pass(4);
        Slopes.passOne(x, 1, 0, 0);
        c.dueField("a good day after 4 dry ones", x, 0, 0, 1, 120, 0, 120, 0, 1, 5, 1, 0, 0);
        Slopes.passOne(x, 0, 0, 1);
        c.dueField("dry again", x, 0, 0, 0, 120, 0, 120, 0, 1, 6, 0, 0, 1);
        Slopes.passOne(x, 20, 0, 0);
        c.dueField("drowned after dry", x, 0, 0, 20, 120, 0, 120, 0, 1, 7, 0, 1, 0);
        x.pass(2);
        c.due("drowned for 3 days", x.field(0, 0, 8), 3);
        Slopes.passOne(x, 0, 0, 20);
        c.dueField("dry after drowned", x, 0, 0, 0, 120, 0, 120, 0, 1, 10, 0, 0, 1);
        Slopes.passOne(x, 20, 0, 0);
        c.due("drowned again", x.field(0, 0, 8), 1);
        Slopes.passOne(x, 0, 0, 10);
        c.dueField("a good day after a drowned one", x, 0, 0, 10, 120, 0, 120, 0, 1, 12, 2, 0, 0);
    }

    private static void onlyFieldsWithACropGrow(Checks c) {
        PaddyTerraces x = still();
        x.plant(0, 0, 3);
        Slopes.passOne(x, 6, 0, 0);
        c.due("fallow: field(0, 1, 6)", x.field(0, 1, 6), 0);
        c.due("fallow: field(0, 1, 7)", x.field(0, 1, 7), 0);
        c.due("fallow: field(1, 1, 9)", x.field(1, 1, 9), 0);
        x.pass(20);
        c.due("fallow for long: count(7)", x.count(7), 0);
    }
}
