/** Promise 10: the boundaries of a day's loss. */
public final class P10DayLossBoundsTest {
    public static void main(String[] args) {
        sentences().run();
    }

    static Sentences sentences() {
        Sentences s = Sentences.ofSection("Terms", "Promise 10");
        s.test("Each field loses its seepage and the sun's draught of this day, but at most what it has.",
            P10DayLossBoundsTest::atMostWhatItHas);
        s.test("(What seeps does not come to other fields.)", P10DayLossBoundsTest::whatSeepsIsGone);
        s.test("A depth greater than 200 is 200 then; what is above runs into the brook.",
            P10DayLossBoundsTest::aDepthGreaterThan200);
        return s;
    }

    private static void atMostWhatItHas(Checks c) {
        int[][] rainSeepageDraughtAndLeft = {{0, 0, 0, 0}, {0, 9, 20, 0}, {30, 0, 0, 30}, {1, 1, 0, 0}, {1, 0, 1, 0},
            {1, 1, 1, 0}, {11, 9, 3, 0}, {12, 9, 3, 0}, {13, 9, 3, 1}, {19, 0, 20, 0}, {20, 0, 20, 0}, {21, 0, 20, 1},
            {8, 9, 0, 0}, {9, 9, 0, 0}, {10, 9, 0, 1}, {28, 9, 20, 0}, {29, 9, 20, 0}, {30, 9, 20, 1}};
        for (int[] row : rainSeepageDraughtAndLeft) {
            PaddyTerraces x = Slopes.withoutWeather(2, 2);
            x.setField(1, 1, 60, row[1]);
            Slopes.passOne(x, row[0], 0, row[2]);
            String when = "rain " + row[0] + ", seepage " + row[1] + ", draught " + row[2];
            c.due(when + ": field(1, 1, 0)", x.field(1, 1, 0), row[3]);
            c.due(when + ": count(5)", x.count(5), 0);
        }
    }

    /** The field above seeps all it has; the one below and the one beside keep the rain alone. */
    private static void whatSeepsIsGone(Checks c) {
        PaddyTerraces x = Slopes.withoutWeather(2, 2);
        x.setField(0, 0, 60, 9);
        x.setField(0, 1, 60, 0);
        x.setField(1, 0, 60, 0);
        x.setField(1, 1, 60, 0);
        Slopes.rainOnce(x, 9);
        c.dueDepths("9 of rain", x, 0, 9, 9, 9);
        c.due("count(5)", x.count(5), 0);
    }

    /**
     * The left field is 120 deep; the right one gets the spring, of which 40 go out, and of the rest above 20 the half
     * spills to the left: with 220 of spring 80, so that it is 200 deep; the other half runs into the brook.
     */
    private static void aDepthGreaterThan200(Checks c) {
        dueDeepest(c, 218, 0, 0, 199, 79);
        dueDeepest(c, 220, 0, 0, 200, 80);
        dueDeepest(c, 222, 0, 0, 200, 81 + 1);
        dueDeepest(c, 400, 0, 0, 200, 170 + 90);
        dueDeepest(c, 222, 1, 0, 200, 81);
        dueDeepest(c, 222, 0, 1, 200, 81);
        dueDeepest(c, 222, 1, 1, 199, 81);
        dueDeepest(c, 224, 1, 0, 200, 82 + 1);
        dueDeepest(c, 400, 9, 20, 200, 170 + 61);
        dueDeepest(c, 278, 9, 20, 200, 109);
        dueDeepest(c, 276, 9, 20, 199, 108);
    }

    private static void dueDeepest(Checks c, int spring, int seepage, int draught, int depth, int brook) {
        PaddyTerraces x = Slopes.withoutWeather(2, 2);
        Slopes.close(x, 0, 0);
        Slopes.close(x, 1, 1);
        x.setShare(0, 1);
        Slopes.passOne(x, 0, 120, 0);
        x.setShare(0, 0);
        x.setShare(1, 1);
        x.setField(0, 0, 120, seepage);
        x.setField(0, 1, 20, 0);
        Slopes.passOne(x, 0, spring, draught);
        String when = "spring " + spring + ", seepage " + seepage + ", draught " + draught;
        c.due(when + ": field(0, 0, 0)", x.field(0, 0, 0), depth);
        c.due(when + ": count(5)", x.count(5), brook);
    }
}
