/** Promise 10: the boundaries of pass; those of the steps of a day are in the tests P10Day... */
public final class P10PassBoundsTest {
    public static void main(String[] args) {
        sentences().run();
        terms().run();
    }

    static Sentences sentences() {
        Sentences s = Sentences.ofPromise(10);
        s.test("Returns the number of fields with a crop then.", P10PassBoundsTest::returnsTheFieldsWithACropThen);
        s.test("if days is not 1 to 60", P10PassBoundsTest::refusedIfDaysIsNot1To60);
        s.test("if the day would be greater than 2000", P10PassBoundsTest::refusedBeyondDay2000);
        return s;
    }

    static Sentences terms() {
        Sentences s = Sentences.ofSection("Terms", "Promise 10");
        s.test("The days are numbered from 1.", P10PassBoundsTest::theDaysAreNumberedFrom1);
        return s;
    }

    /** The dry crops die on the fifth day, the other one lives. */
    private static void returnsTheFieldsWithACropThen(Checks c) {
        c.due("no crop", new PaddyTerraces().pass(1), 0);
        int[][] daysAndCrops = {{1, 3}, {4, 3}, {5, 1}, {6, 1}};
        for (int[] row : daysAndCrops) {
            PaddyTerraces x = Slopes.allFiveDeep(2, 2);
            x.setField(0, 1, 60, 9);
            x.setField(1, 1, 60, 9);
            x.plant(0, 0, 20);
            x.plant(0, 1, 20);
            x.plant(1, 1, 20);
            c.due("pass(" + row[0] + ")", x.pass(row[0]), row[1]);
            c.due("count(3)", x.count(3), row[1]);
        }
    }

    private static void refusedIfDaysIsNot1To60(Checks c) {
        int[] good = {1, 60};
        for (int days : good) {
            PaddyTerraces x = Slopes.busy();
            x.pass(days);
            c.due("count(2) after pass(" + days + ")", x.count(2), 23 + days);
        }
        int[] wrong = {0, 61, -1, -60, Integer.MAX_VALUE, Integer.MIN_VALUE};
        for (int days : wrong) {
            c.refusedArgument("pass(" + days + ")", Slopes::busy, x -> x.pass(days));
            c.refusedArgument("pass(" + days + ") on day 2000", () -> Slopes.onDay(2000), x -> x.pass(days));
        }
    }

    private static void refusedBeyondDay2000(Checks c) {
        int[][] dayAndDays = {{1940, 60}, {1941, 59}, {1980, 20}, {1998, 2}, {1999, 1}};
        for (int[] row : dayAndDays) {
            PaddyTerraces x = Slopes.onDay(row[0]);
            x.pass(row[1]);
            c.due("pass(" + row[1] + ") on day " + row[0] + ": count(2)", x.count(2), 2000);
        }
        int[][] tooFar = {{1941, 60}, {1942, 59}, {1980, 21}, {1999, 2}, {1999, 60}, {2000, 1}, {2000, 60}};
        for (int[] row : tooFar) {
            c.refusedState("pass(" + row[1] + ") on day " + row[0], () -> Slopes.onDay(row[0]), x -> x.pass(row[1]));
        }
        PaddyTerraces last = Slopes.onDay(2000);
        last.plant(0, 0, 20);
        c.due("what lets no day go by is still taken on day 2000", last.moveStone(0, 0, 0), -30);
    }

    private static void theDaysAreNumberedFrom1(Checks c) {
        PaddyTerraces x = new PaddyTerraces();
        c.due("before the first day: count(2)", x.count(2), 0);
        x.pass(1);
        c.due("on the first day: count(2)", x.count(2), 1);
    }
}
