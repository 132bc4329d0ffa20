/** Promise 5: the boundaries of turn. */
public final class P05TurnBoundsTest {
    public static void main(String[] args) {
        sentences().run();
    }

    static Sentences sentences() {
        Sentences s = Sentences.ofPromise(5);
        s.test("Returns the side before.", P05TurnBoundsTest::returnsTheSideBefore);
        s.test("if there is no such field", P05TurnBoundsTest::refusedIfThereIsNoSuchField);
        s.test("if side is not -1 to 1", P05TurnBoundsTest::refusedIfSideIsNotMinus1To1);
        return s;
    }

    private static void returnsTheSideBefore(Checks c) {
        PaddyTerraces x = new PaddyTerraces();
        c.due("at first", x.turn(3, 3, 1), 0);
        c.due("turned to 1", x.turn(3, 3, -1), 1);
        c.due("turned to -1", x.turn(3, 3, -1), -1);
        c.due("turned to -1 again", x.turn(3, 3, 0), -1);
        c.due("turned to 0", x.turn(3, 3, 0), 0);
        c.due("another field", x.turn(0, 0, 1), 0);
    }

    /** Also where the outlet would lead to no column. */
    private static void refusedIfThereIsNoSuchField(Checks c) {
        Slopes.dueNoSuchField(c, "turn", Slopes::busyOfSize, (x, t, f) -> x.turn(t, f, -1),
            (x, t, f) -> x.turn(t, f, 2), (x, t, f) -> x.turn(t, f, -2));
        Slopes.dueNoSuchField(c, "turn", Slopes::busyOfSize, (x, t, f) -> x.turn(t, f, 1));
    }

    private static void refusedIfSideIsNotMinus1To1(Checks c) {
        for (int side = -1; side <= 1; side++) {
            PaddyTerraces x = Slopes.busy();
            c.due("turn(0, 1, " + side + ")", x.turn(0, 1, side), -1);
            c.due("its side", x.field(0, 1, 4), side);
        }
        int[] wrong = {-2, 2, -3, 3, 255, Integer.MAX_VALUE, Integer.MIN_VALUE};
        for (int side : wrong) {
            c.refusedArgument("turn(0, 1, " + side + ")", Slopes::busy, x -> x.turn(0, 1, side));
        }
    }
}
