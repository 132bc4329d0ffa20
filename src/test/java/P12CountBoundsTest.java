/** Promise 12: the boundaries of count. */
public final class P12CountBoundsTest {
    public static void main(String[] args) {
        sentences().run();
        terms().run();
    }

    static Sentences sentences() {
        Sentences s = Sentences.ofPromise(12);
        s.test("0 h, 1 w, 2 the day, 3 fields with a crop, 4 all depths together", P12CountBoundsTest::leastAndMost);
        s.test("5 what came to the brook in all days", P12CountBoundsTest::theBrookInAllDays);
        s.test("6 what was reaped in all, 7 crops that died", P12CountBoundsTest::reapedAndDied);
        s.test("8 by how much stones were moved, all together (each move without its sign)",
            P12CountBoundsTest::eachMoveWithoutItsSign);
        s.test("if what is not 0 to 8", P12CountBoundsTest::refusedIfWhatIsNot0To8);
        return s;
    }

    static Sentences terms() {
        Sentences s = Sentences.ofSection("Terms", "Promise 12");
        s.test("The brook counts all that comes to it.", P12CountBoundsTest::theBrookCountsAll);
        return s;
    }

    private static void leastAndMost(Checks c) {
        for (int[] size : Slopes.SIZES) {
            int h = size[0];
            int w = size[1];
            PaddyTerraces x = Slopes.ofSize(h, w);
            for (int cell = 0; cell < h * w; cell++) {
                x.plant(cell / w, cell % w, 20);
            }
            c.dueCounts("all planted", x, h, w, 0, h * w, 0);
            Slopes.passOne(x, 20, 0, 0);
            c.dueCounts("all 18 deep", x, h, w, 1, h * w, 18 * h * w);
        }
        c.due("on the last day: count(2)", Slopes.onDay(2000).count(2), 2000);
    }

    private static void theBrookInAllDays(Checks c) {
        PaddyTerraces x = Slopes.withoutWeather(2, 2);
        x.moveStone(1, 0, 0);
        x.moveStone(1, 1, 0);
        c.due("before the first day", x.count(5), 0);
        Slopes.rainOnce(x, 1);
        c.due("2 fields of 1", x.count(5), 2);
        x.pass(1);
        c.due("a day without water", x.count(5), 2);
        Slopes.rainOnce(x, 10);
        c.due("2 fields of 10", x.count(5), 2 + 20);
        x.lay(2, 2);
        c.due("laid anew", x.count(5), 0);
    }

    /** On one day: over a stone, over a bank to both sides, and what is above 200. */
    private static void theBrookCountsAll(Checks c) {
        PaddyTerraces x = Slopes.withoutWeather(2, 2);
        Slopes.close(x, 0, 0);
        Slopes.close(x, 1, 0);
        x.setShare(0, 1);
        Slopes.passOne(x, 0, 120, 0);
        c.due("nothing yet", x.count(5), 0);
        x.setShare(0, 0);
        x.setShare(1, 1);
        x.setField(0, 1, 20, 0);
        x.turn(0, 1, 1);
        Slopes.passOne(x, 0, 400, 0);
        // 40 go out beside the column, 340 spill: 170 to the brook, 170 to the left field, which is 290 deep then.
        c.due("count(5)", x.count(5), 40 + 170 + 90);
        x.setShare(1, 0);
        x.pass(1);
        // The left field, 200 deep, lets 40 out below and spills 40: 20 to the brook, and 20 that the right lets out.
        c.due("count(5) a day later", x.count(5), 300 + 20 + 20);
    }

    private static void reapedAndDied(Checks c) {
        PaddyTerraces x = Slopes.fiveDeep();
        x.plant(0, 0, 20);
        x.plant(0, 1, 20);
        x.pass(20);
        c.due("nothing reaped: count(6)", x.count(6), 0);
        x.reap(0, 0);
        c.due("one reaped: count(6)", x.count(6), 16);
        x.pass(1);
        x.reap(0, 1);
        c.due("two reaped: count(6)", x.count(6), 16 + 17);
        c.due("none died: count(7)", x.count(7), 0);

        PaddyTerraces y = Slopes.withoutWeather(2, 2);
        Slopes.close(y, 0, 0);
        y.plant(0, 0, 0);
        y.plant(1, 1, 0);
        y.moveStone(1, 1, 0);
        Slopes.rainOnce(y, 12);
        y.pass(2);
        c.due("drowned for 3 days: count(7)", y.count(7), 0);
        y.pass(1);
        c.due("one drowned: count(7)", y.count(7), 1);
        y.pass(1);
        c.due("and one dry: count(7)", y.count(7), 2);
        c.due("of dead crops nothing is reaped: count(6)", y.count(6), 0);
    }

    private static void eachMoveWithoutItsSign(Checks c) {
        PaddyTerraces x = new PaddyTerraces();
        x.moveStone(0, 0, 30);
        c.due("a move by 0", x.count(8), 0);
        x.moveStone(0, 0, 29);
        c.due("down by 1", x.count(8), 1);
        x.moveStone(0, 0, 30);
        c.due("and up by 1", x.count(8), 2);
        x.moveStone(3, 3, 0);
        x.moveStone(3, 3, 60);
        c.due("down by 30 and up by 60", x.count(8), 92);
        x.foresee(5, 0);
        x.advise(5, 0);
        c.due("what is only looked at is no move", x.count(8), 92);
        x.lay(2, 2);
        c.due("laid anew", x.count(8), 0);
    }

    private static void refusedIfWhatIsNot0To8(Checks c) {
        c.due("count(0)", Slopes.busy().count(0), 2);
        c.due("count(8)", Slopes.busy().count(8), 20 + 20 + 20 + 10);
        int[] wrong = {-1, 9, 10, Integer.MAX_VALUE, Integer.MIN_VALUE};
        for (int what : wrong) {
            c.refusedIndex("count(" + what + ")", Slopes::busy, x -> x.count(what));
        }
    }
}
