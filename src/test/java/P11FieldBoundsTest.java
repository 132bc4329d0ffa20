/** Promise 11: the boundaries of field. */
public final class P11FieldBoundsTest {
    public static void main(String[] args) {
        sentences().run();
    }

    static Sentences sentences() {
        Sentences s = Sentences.ofPromise(11);
        s.test("5 1 if it has a crop, else 0, 6 the age and 7 the hardness of this, 8 its days drowned, 9 its days dry"
            + " (6 to 9: 0 if it is fallow)", P11FieldBoundsTest::zeroIfItIsFallow);
        s.test("10 what went out over its stone on this day, 11 what spilled over its bank",
            P11FieldBoundsTest::outAndSpillAreOfThisDay);
        s.test("if there is no such field", P11FieldBoundsTest::refusedIfThereIsNoSuchField);
        s.test("or what is not 0 to 11", P11FieldBoundsTest::refusedIfWhatIsNot0To11);
        return s;
    }

    private static void zeroIfItIsFallow(Checks c) {
        dueFallow(c, "never planted", new PaddyTerraces());

        PaddyTerraces dry = Slopes.withoutWeather(2, 2);
        dry.plant(0, 0, 20);
        dry.pass(4);
        c.dueField("dry for 4 days", dry, 0, 0, 0, 60, 2, 30, 0, 1, 24, 0, 0, 4);
        dry.pass(1);
        dueFallow(c, "dried up", dry);

        PaddyTerraces drowned = Slopes.withoutWeather(2, 2);
        Slopes.close(drowned, 0, 0);
        drowned.plant(0, 0, 20);
        Slopes.rainOnce(drowned, 18);
        c.dueField("18 deep at the age 21", drowned, 0, 0, 18, 120, 0, 120, 0, 1, 21, 2, 0, 0);
        Slopes.rainOnce(drowned, 60);
        drowned.pass(2);
        c.dueField("drowned for 3 days", drowned, 0, 0, 78, 120, 0, 120, 0, 1, 24, 0, 3, 0);
        drowned.pass(1);
        dueFallow(c, "drowned for 4 days", drowned);

        PaddyTerraces reaped = Slopes.fiveDeep();
        reaped.plant(0, 0, 20);
        reaped.pass(20);
        c.due("ripe: field(0, 0, 7)", reaped.field(0, 0, 7), 40);
        reaped.reap(0, 0);
        dueFallow(c, "reaped", reaped);
    }

    private static void dueFallow(Checks c, String when, PaddyTerraces x) {
        for (int what = 5; what <= 9; what++) {
            c.due(when + ": field(0, 0, " + what + ")", x.field(0, 0, what), 0);
        }
    }

    /** Of 110, 40 go out and 10 spill, on one day of two; before the first day nothing did. */
    private static void outAndSpillAreOfThisDay(Checks c) {
        PaddyTerraces x = Slopes.withoutWeather(2, 2);
        x.setShare(0, 1);
        dueOutAndSpill(c, "before the first day", x, 0, 0);
        Slopes.passOne(x, 0, 110, 0);
        dueOutAndSpill(c, "110 deep", x, 40, 10);
        x.setDay(0, 0, 0, 0);
        x.moveStone(0, 0, 60);
        x.setField(0, 0, 120, 0);
        dueOutAndSpill(c, "after other calls on the same day", x, 40, 10);
        x.pass(1);
        dueOutAndSpill(c, "on a still day", x, 0, 0);
        x.moveStone(0, 0, 57);
        x.pass(2);
        dueOutAndSpill(c, "the day before, 1 went out", x, 0, 0);

        PaddyTerraces y = Slopes.withoutWeather(2, 2);
        y.setShare(0, 1);
        Slopes.passOne(y, 0, 110, 0);
        y.lay(2, 2);
        dueOutAndSpill(c, "laid anew", y, 0, 0);
    }

    private static void dueOutAndSpill(Checks c, String when, PaddyTerraces x, int out, int spill) {
        c.due(when + ": field(0, 0, 10)", x.field(0, 0, 10), out);
        c.due(when + ": field(0, 0, 11)", x.field(0, 0, 11), spill);
    }

    private static void refusedIfThereIsNoSuchField(Checks c) {
        Slopes.dueNoSuchField(c, "field", Slopes::busyOfSize, (x, t, f) -> x.field(t, f, 1),
            (x, t, f) -> x.field(t, f, 12), (x, t, f) -> x.field(t, f, -1));
    }

    private static void refusedIfWhatIsNot0To11(Checks c) {
        c.due("field(0, 0, 0)", Slopes.busy().field(0, 0, 0), 60 - 3);
        c.due("field(0, 0, 11)", Slopes.busy().field(0, 0, 11), 5);
        int[] wrong = {-1, 12, 13, Integer.MAX_VALUE, Integer.MIN_VALUE};
        for (int what : wrong) {
            c.refusedIndex("field(1, 2, " + what + ")", Slopes::busy, x -> x.field(1, 2, what));
            c.refusedIndex("field(0, 0, " + what + ")", Slopes::busy, x -> x.field(0, 0, what));
        }
    }
}
