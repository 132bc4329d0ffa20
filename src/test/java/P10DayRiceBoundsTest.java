/** Promise 10: the boundaries of what the rice does on a day. */
public final class P10DayRiceBoundsTest {
    public static void main(String[] args) {
        sentences().run();
    }

    static Sentences sentences() {
        Sentences s = Sentences.ofSection("Terms", "Promise 10");
        s.test("A crop becomes a day older.", P10DayRiceBoundsTest::aDayOlder);
        s.test("Its height is 5 and its age * 2 / 3 together", P10DayRiceBoundsTest::fiveAndTwoThirdsOfItsAge);
        s.test("/ is cut towards 0", P10DayRiceBoundsTest::theHeightIsCut);
        s.test("but at most 45", P10DayRiceBoundsTest::atMost45);
        s.test("It is drowned on this day, if the depth is greater than its height",
            P10DayRiceBoundsTest::drownedIfDeeperThanItsHeight);
        s.test("it is dry, if the depth is 0", P10DayRiceBoundsTest::dryIfTheDepthIs0);
        s.test("otherwise its days of both are 0", P10DayRiceBoundsTest::otherwiseBothAre0);
        s.test("If it is drowned, its days drowned are one more, those dry 0", P10DayRiceBoundsTest::drownedAfterDry);
        s.test("likewise the other way round", P10DayRiceBoundsTest::dryAfterDrowned);
        s.test("With 4 days drowned, or 5 dry, it dies: the field is fallow.", P10DayRiceBoundsTest::diesAndIsFallow);
        s.test("for how many days one behind the other it has been drowned and dry",
            P10DayRiceBoundsTest::oneBehindTheOther);
        s.test("If it is neither, and the depth is 5 to 25, its hardness is 2 greater; if it is neither otherwise,"
            + " 1 greater", P10DayRiceBoundsTest::harderByTheDepth);
        s.test("on a drowned or dry day it is 3 less (it is 0 to 100)", P10DayRiceBoundsTest::threeLessDownTo0);
        s.test("a hardness, 0 to 100", P10DayRiceBoundsTest::hardnessUpTo100);
        return s;
    }

    /** A slope without weather whose field (0, 0) is closed and has a crop of this age. */
    private static PaddyTerraces planted(int age) {
        PaddyTerraces x = Slopes.withoutWeather(2, 2);
        Slopes.close(x, 0, 0);
        x.plant(0, 0, age);
        return x;
    }

    /** As planted(20), but this old, after days at the depth 5, each of which made it harder by 2. */
    private static PaddyTerraces grown(int age) {
        PaddyTerraces x = planted(20);
        Slopes.rainOnce(x, 5);
        if (age > 21) {
            x.pass(age - 21);
        }
        return x;
    }

    /** The next day dries the field as far as it can, and changes nothing but this. */
    private static void dryOnce(PaddyTerraces x, int draught) {
        int date = x.count(2) % 30;
        x.setDay(date, 0, 0, draught);
        x.pass(1);
        x.setDay(date, 0, 0, 0);
    }

    private static void dueCrop(Checks c, String when, PaddyTerraces x, int age, int hardness, int drowned, int dry) {
        int[] want = {1, age, hardness, drowned, dry};
        for (int k = 0; k < want.length; k++) {
            c.due(when + ": field(0, 0, " + (5 + k) + ")", x.field(0, 0, 5 + k), want[k]);
        }
    }

    private static void dueDead(Checks c, String when, PaddyTerraces x) {
        for (int what = 5; what <= 9; what++) {
            c.due(when + ": field(0, 0, " + what + ")", x.field(0, 0, what), 0);
        }
        c.due(when + ": count(3)", x.count(3), 0);
        c.due(when + ": count(7)", x.count(7), 1);
    }

    private static void aDayOlder(Checks c) {
        int[] ages = {0, 1, 20};
        for (int age : ages) {
            PaddyTerraces x = Slopes.allFiveDeep(2, 2);
            x.plant(0, 0, age);
            x.pass(1);
            c.due("planted as " + age + ", a day later", x.field(0, 0, 6), age + 1);
            c.due("a fallow field has no age", x.field(1, 1, 6), 0);
        }
        PaddyTerraces old = Slopes.allFiveDeep(2, 2);
        old.plant(0, 0, 20);
        old.pass(60);
        c.due("60 days later", old.field(0, 0, 6), 80);
    }

    /** What counts is the age that it has become on this day. */
    private static void fiveAndTwoThirdsOfItsAge(Checks c) {
        int[][] plantedAndHeight = {{2, 5 + 2}, {5, 5 + 4}, {8, 5 + 6}, {11, 5 + 8}, {14, 5 + 10}, {17, 5 + 12},
            {20, 5 + 14}};
        for (int[] row : plantedAndHeight) {
            dueHeightAfterADay(c, row[0], row[1]);
        }
    }

    private static void theHeightIsCut(Checks c) {
        int[][] plantedAndHeight = {{0, 5 + 0}, {1, 5 + 1}, {3, 5 + 2}, {4, 5 + 3}, {18, 5 + 12}, {19, 5 + 13}};
        for (int[] row : plantedAndHeight) {
            dueHeightAfterADay(c, row[0], row[1]);
        }
    }

    private static void dueHeightAfterADay(Checks c, int age, int height) {
        String when = "a day after the age " + age;
        PaddyTerraces x = planted(age);
        Slopes.rainOnce(x, height);
        c.due(when + ", as deep as high: days drowned", x.field(0, 0, 8), 0);
        PaddyTerraces y = planted(age);
        Slopes.rainOnce(y, height + 1);
        c.due(when + ", deeper than high: days drowned", y.field(0, 0, 8), 1);
    }

    /** At the age 59 it is 44 high, from 60 on 45. */
    private static void atMost45(Checks c) {
        int[][] ageAndHeight = {{58, 43}, {59, 44}, {60, 45}, {61, 45}, {62, 45}, {63, 45}, {80, 45}};
        for (int[] row : ageAndHeight) {
            String when = "at the age " + row[0];
            PaddyTerraces x = grown(row[0] - 1);
            Slopes.rainOnce(x, row[1] - 5);
            c.due(when + ", as deep as high: field(0, 0, 0)", x.field(0, 0, 0), row[1]);
            c.due(when + ", as deep as high: field(0, 0, 6)", x.field(0, 0, 6), row[0]);
            c.due(when + ", as deep as high: days drowned", x.field(0, 0, 8), 0);
            PaddyTerraces y = grown(row[0] - 1);
            Slopes.rainOnce(y, row[1] + 1 - 5);
            c.due(when + ", deeper than high: days drowned", y.field(0, 0, 8), 1);
        }
    }

    private static void drownedIfDeeperThanItsHeight(Checks c) {
        PaddyTerraces x = grown(39);
        Slopes.rainOnce(x, 31 - 5);
        dueCrop(c, "31 deep at the age 40", x, 40, 38 + 1, 0, 0);
        Slopes.rainOnce(x, 2);
        dueCrop(c, "33 deep at the age 41", x, 41, 39 - 3, 1, 0);
        x.pass(1);
        dueCrop(c, "33 deep at the age 42, when it is so high", x, 42, 36 + 1, 0, 0);
    }

    private static void dryIfTheDepthIs0(Checks c) {
        PaddyTerraces x = grown(30);
        dryOnce(x, 4);
        dueCrop(c, "1 deep", x, 31, 20 + 1, 0, 0);
        dryOnce(x, 1);
        dueCrop(c, "0 deep", x, 32, 21 - 3, 0, 1);
        Slopes.rainOnce(x, 1);
        dueCrop(c, "1 deep again", x, 33, 18 + 1, 0, 0);
    }

    private static void otherwiseBothAre0(Checks c) {
        PaddyTerraces dry = planted(20);
        dry.pass(4);
        dueCrop(c, "dry for 4 days", dry, 24, 0, 0, 4);
        Slopes.rainOnce(dry, 1);
        dueCrop(c, "and one good day", dry, 25, 1, 0, 0);

        PaddyTerraces drowned = planted(0);
        Slopes.rainOnce(drowned, 8);
        drowned.pass(2);
        dueCrop(c, "drowned for 3 days", drowned, 3, 0, 3, 0);
        dryOnce(drowned, 1);
        dueCrop(c, "and one good day", drowned, 4, 2, 0, 0);
    }

    private static void drownedAfterDry(Checks c) {
        PaddyTerraces x = planted(20);
        x.pass(4);
        Slopes.rainOnce(x, 60);
        dueCrop(c, "drowned after 4 dry days", x, 25, 0, 1, 0);
        x.pass(2);
        dueCrop(c, "drowned for 3 days", x, 27, 0, 3, 0);
    }

    private static void dryAfterDrowned(Checks c) {
        PaddyTerraces x = planted(0);
        Slopes.rainOnce(x, 20);
        x.pass(2);
        dueCrop(c, "drowned for 3 days", x, 3, 0, 3, 0);
        dryOnce(x, 20);
        dueCrop(c, "dry after 3 drowned days", x, 4, 0, 0, 1);
        x.pass(3);
        dueCrop(c, "dry for 4 days", x, 7, 0, 0, 4);
        x.pass(1);
        dueDead(c, "dry for 5 days", x);
    }

    private static void diesAndIsFallow(Checks c) {
        PaddyTerraces dry = planted(20);
        dry.pass(4);
        dueCrop(c, "4 days dry", dry, 24, 0, 0, 4);
        c.due("count(7)", dry.count(7), 0);
        c.due("pass(1)", dry.pass(1), 0);
        dueDead(c, "5 days dry", dry);
        dry.pass(5);
        dueDead(c, "a fallow field does not die again", dry);
        c.due("it can be planted again", dry.plant(0, 0, 5), 1);

        PaddyTerraces drowned = planted(20);
        Slopes.rainOnce(drowned, 60);
        drowned.pass(2);
        dueCrop(c, "3 days drowned", drowned, 23, 0, 3, 0);
        c.due("count(7)", drowned.count(7), 0);
        c.due("pass(1)", drowned.pass(1), 0);
        dueDead(c, "4 days drowned", drowned);

        PaddyTerraces hard = grown(75);
        c.due("as hard as can be", hard.field(0, 0, 7), 100);
        Slopes.rainOnce(hard, 60);
        hard.pass(3);
        dueDead(c, "4 days drowned, though it was hard", hard);
    }

    /** Many days of both in all, but never 4 drowned or 5 dry without a break. */
    private static void oneBehindTheOther(Checks c) {
        PaddyTerraces x = planted(20);
        for (int round = 0; round < 3; round++) {
            dryOnce(x, 1);
            x.pass(3);
            c.due("dry for 4 days, round " + round, x.field(0, 0, 9), 4);
            Slopes.rainOnce(x, 60);
            x.pass(2);
            c.due("drowned for 3 days, round " + round, x.field(0, 0, 8), 3);
            x.moveStone(0, 0, 0);
            dryOnce(x, 19);
            x.moveStone(0, 0, 120);
            c.due("1 deep, round " + round, x.field(0, 0, 0), 1);
            c.due("a good day, round " + round, x.field(0, 0, 8) + x.field(0, 0, 9), 0);
        }
        c.due("it is alive: count(3)", x.count(3), 1);
        c.due("none has died: count(7)", x.count(7), 0);
    }

    /** At the age 40 it is 31 high; 38 hard on the evening before. */
    private static void harderByTheDepth(Checks c) {
        int[][] depthAndHardness = {{5, 40}, {6, 40}, {24, 40}, {25, 40}, {26, 39}, {27, 39}, {31, 39}, {32, 35}};
        for (int[] row : depthAndHardness) {
            PaddyTerraces x = grown(39);
            Slopes.rainOnce(x, row[0] - 5);
            c.due(row[0] + " deep: field(0, 0, 7)", x.field(0, 0, 7), row[1]);
        }
        int[][] shallowAndHardness = {{4, 39}, {3, 39}, {1, 39}, {0, 35}};
        for (int[] row : shallowAndHardness) {
            PaddyTerraces x = grown(39);
            dryOnce(x, 5 - row[0]);
            c.due(row[0] + " deep: field(0, 0, 7)", x.field(0, 0, 7), row[1]);
        }
    }

    /** So many days at the depth 1 make it so hard; then it is dry or drowned. */
    private static void threeLessDownTo0(Checks c) {
        int[][] daysAndHardness = {{1, 0}, {2, 0}, {3, 0}, {4, 1}, {5, 2}, {10, 7}};
        for (int[] row : daysAndHardness) {
            PaddyTerraces dry = oneDeep(row[0]);
            c.due("the hardness before", dry.field(0, 0, 7), row[0]);
            dryOnce(dry, 1);
            c.due(row[0] + " on a dry day: field(0, 0, 7)", dry.field(0, 0, 7), row[1]);
            PaddyTerraces drowned = oneDeep(row[0]);
            Slopes.rainOnce(drowned, 60);
            c.due(row[0] + " on a drowned day: field(0, 0, 7)", drowned.field(0, 0, 7), row[1]);
        }
        PaddyTerraces none = planted(20);
        none.pass(1);
        c.due("0 on a dry day: field(0, 0, 7)", none.field(0, 0, 7), 0);
    }

    private static PaddyTerraces oneDeep(int days) {
        PaddyTerraces x = planted(20);
        Slopes.rainOnce(x, 1);
        if (days > 1) {
            x.pass(days - 1);
        }
        return x;
    }

    private static void hardnessUpTo100(Checks c) {
        int[][] ageAndHardness = {{69, 98}, {70, 100}, {71, 100}, {79, 100}};
        for (int[] row : ageAndHardness) {
            c.due("2 greater a day, at the age " + row[0], grown(row[0]).field(0, 0, 7), row[1]);
        }
        PaddyTerraces odd = planted(20);
        Slopes.rainOnce(odd, 4);
        Slopes.rainOnce(odd, 1);
        odd.pass(48);
        c.due("one day at the depth 4 and 49 at 5", odd.field(0, 0, 7), 99);
        odd.pass(1);
        c.due("2 greater than 99", odd.field(0, 0, 7), 100);
        dryOnce(odd, 1);
        c.due("1 greater than 100", odd.field(0, 0, 7), 100);
        dryOnce(odd, 4);
        c.due("3 less than 100", odd.field(0, 0, 7), 97);
    }
}
