/** Promise 8: the boundaries of plant. */
public final class P08PlantBoundsTest {
    public static void main(String[] args) {
        sentences().run();
    }

    static Sentences sentences() {
        Sentences s = Sentences.ofPromise(8);
        s.test("with the hardness 0, and no days drowned or dry", P08PlantBoundsTest::withHardness0AndNoDays);
        s.test("the age of the plants, 0 to 20", P08PlantBoundsTest::theAgeOfThePlants);
        s.test("Returns the number of fields with a crop.", P08PlantBoundsTest::returnsTheNumberOfFieldsWithACrop);
        s.test("if there is no such field", P08PlantBoundsTest::refusedIfThereIsNoSuchField);
        s.test("if age is not 0 to 20", P08PlantBoundsTest::refusedIfAgeIsNot0To20);
        s.test("if it is not fallow", P08PlantBoundsTest::refusedIfItIsNotFallow);
        s.test("or its depth is greater than 40", P08PlantBoundsTest::refusedIfItsDepthIsGreaterThan40);
        return s;
    }

    /** Where a crop was before: one that dried up, one that drowned, and a hard one that was reaped. */
    private static void withHardness0AndNoDays(Checks c) {
        PaddyTerraces dried = Slopes.withoutWeather(2, 2);
        dried.plant(0, 0, 20);
        dried.pass(5);
        dried.plant(0, 0, 6);
        c.dueField("after a dry crop", dried, 0, 0, 0, 60, 2, 30, 0, 1, 6, 0, 0, 0);

        PaddyTerraces drowned = filled(40);
        drowned.plant(0, 0, 0);
        drowned.pass(4);
        c.due("the drowned crop died", drowned.count(7), 1);
        drowned.plant(0, 0, 0);
        c.dueField("after a drowned crop", drowned, 0, 0, 40, 120, 0, 120, 0, 1, 0, 0, 0, 0);

        PaddyTerraces reaped = Slopes.fiveDeep();
        reaped.plant(0, 0, 20);
        reaped.pass(20);
        reaped.reap(0, 0);
        reaped.plant(0, 0, 20);
        c.dueField("after a reaped crop", reaped, 0, 0, 5, 60, 2, 10, 0, 1, 20, 0, 0, 0);
    }

    /** A slope whose field (0, 0) is closed and this deep. */
    private static PaddyTerraces filled(int depth) {
        PaddyTerraces x = Slopes.withoutWeather(2, 2);
        Slopes.close(x, 0, 0);
        Slopes.rainOnce(x, depth / 2);
        Slopes.rainOnce(x, depth - depth / 2);
        return x;
    }

    private static void theAgeOfThePlants(Checks c) {
        int[] ages = {0, 1, 19, 20};
        for (int age : ages) {
            PaddyTerraces x = new PaddyTerraces();
            x.plant(3, 0, age);
            c.dueField("planted at the age " + age, x, 3, 0, 0, 60, 2, 30, 0, 1, age, 0, 0, 0);
            x.pass(1);
            c.due("a day older", x.field(3, 0, 6), age + 1);
        }
    }

    private static void returnsTheNumberOfFieldsWithACrop(Checks c) {
        for (int[] size : Slopes.SIZES) {
            int w = size[1];
            PaddyTerraces x = Slopes.ofSize(size[0], w);
            for (int cell = 0; cell < size[0] * w; cell++) {
                c.due("crop " + (cell + 1) + " on " + size[0] + " by " + w, x.plant(cell / w, cell % w, 0), cell + 1);
            }
        }
        PaddyTerraces x = Slopes.fiveDeep();
        x.plant(0, 0, 20);
        x.plant(0, 1, 20);
        x.pass(20);
        x.reap(0, 0);
        c.due("after one of two was reaped", x.plant(1, 0, 0), 2);
    }

    private static void refusedIfThereIsNoSuchField(Checks c) {
        Slopes.dueNoSuchField(c, "plant", Slopes::ofSize, (x, t, f) -> x.plant(t, f, 20),
            (x, t, f) -> x.plant(t, f, 21), (x, t, f) -> x.plant(t, f, -1));
    }

    /** On a fallow field, on one with a crop and on one that is too deep: the age comes before the state. */
    private static void refusedIfAgeIsNot0To20(Checks c) {
        c.due("age 0", Slopes.busy().plant(1, 2, 0), 5);
        c.due("age 20", Slopes.busy().plant(1, 2, 20), 5);
        int[] wrong = {-1, 21, -20, 40, Integer.MAX_VALUE, Integer.MIN_VALUE};
        for (int age : wrong) {
            c.refusedArgument("plant(1, 2, " + age + ") on a fallow field", Slopes::busy, x -> x.plant(1, 2, age));
            c.refusedArgument("plant(0, 1, " + age + ") on a crop", Slopes::busy, x -> x.plant(0, 1, age));
            c.refusedArgument("plant(0, 0, " + age + ") at the depth 41", () -> filled(41), x -> x.plant(0, 0, age));
        }
    }

    private static void refusedIfItIsNotFallow(Checks c) {
        c.refusedState("on a crop just planted", P08PlantBoundsTest::justPlanted, x -> x.plant(0, 0, 0));
        c.refusedState("on a growing crop", Slopes::busy, x -> x.plant(0, 0, 20));
        c.refusedState("on a ripe crop", Slopes::busy, x -> x.plant(0, 1, 0));
        c.refusedState("on a crop that would die on the next day", () -> {
            PaddyTerraces x = Slopes.withoutWeather(2, 2);
            x.plant(0, 0, 20);
            x.pass(4);
            return x;
        }, x -> x.plant(0, 0, 20));
        PaddyTerraces x = justPlanted();
        x.pass(5);
        c.due("where the crop has died", x.plant(0, 0, 0), 1);
    }

    private static PaddyTerraces justPlanted() {
        PaddyTerraces x = Slopes.withoutWeather(2, 2);
        x.plant(0, 0, 0);
        return x;
    }

    private static void refusedIfItsDepthIsGreaterThan40(Checks c) {
        c.due("at the depth 0", filled(0).plant(0, 0, 5), 1);
        PaddyTerraces forty = filled(40);
        c.due("field(0, 0, 0)", forty.field(0, 0, 0), 40);
        c.due("at the depth 40", forty.plant(0, 0, 5), 1);
        int[] deep = {41, 42, 120};
        for (int depth : deep) {
            c.due("field(0, 0, 0)", filled(depth).field(0, 0, 0), depth);
            c.refusedState("plant at the depth " + depth, () -> filled(depth), x -> x.plant(0, 0, 5));
        }
        c.due("the depth of another field does not count", filled(41).plant(1, 1, 5), 1);
    }
}
