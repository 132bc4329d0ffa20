/** Promise 3: the boundaries of setField. */
public final class P03SetFieldBoundsTest {
    public static void main(String[] args) {
        sentences().run();
    }

    static Sentences sentences() {
        Sentences s = Sentences.ofPromise(3);
        s.test("A stone that would be higher than the bank is as high as this", P03SetFieldBoundsTest::aStoneTooHigh);
        s.test("(that is no move)", P03SetFieldBoundsTest::thatIsNoMove);
        s.test("Returns the bank before.", P03SetFieldBoundsTest::returnsTheBankBefore);
        s.test("if there is no such field", P03SetFieldBoundsTest::refusedIfThereIsNoSuchField);
        s.test("if bank is not 20 to 120, or seepage is not 0 to 9", P03SetFieldBoundsTest::refusedIfNotInBounds);
        return s;
    }

    private static void aStoneTooHigh(Checks c) {
        int[][] bankAndStone = {{31, 30}, {30, 30}, {29, 29}, {20, 20}, {120, 30}};
        for (int[] row : bankAndStone) {
            PaddyTerraces x = new PaddyTerraces();
            x.setField(3, 3, row[0], 2);
            c.dueField("a stone of 30 and the bank " + row[0], x, 3, 3, 0, row[0], 2, row[1], 0);
            c.dueField("another field", x, 3, 2, 0, 60, 2, 30, 0);
        }
        PaddyTerraces x = new PaddyTerraces();
        x.setField(0, 0, 120, 2);
        x.moveStone(0, 0, 120);
        x.setField(0, 0, 119, 2);
        c.due("a stone of 120 and the bank 119", x.field(0, 0, 3), 119);
        x.setField(0, 0, 120, 2);
        c.due("it stays where it is under a higher bank", x.field(0, 0, 3), 119);
        x.setField(0, 0, 20, 2);
        c.due("a stone of 119 and the bank 20", x.field(0, 0, 3), 20);
    }

    private static void thatIsNoMove(Checks c) {
        PaddyTerraces x = new PaddyTerraces();
        x.setField(0, 0, 20, 2);
        c.due("count(8)", x.count(8), 0);
        c.due("moveStone(0, 0, 20), as high as it is", x.moveStone(0, 0, 20), 0);
        c.due("moveStone(0, 0, 0)", x.moveStone(0, 0, 0), -20);
        c.due("count(8) by the move alone", x.count(8), 20);
        x.setField(0, 1, 29, 2);
        c.due("count(8) after another stone became lower", x.count(8), 20);
    }

    private static void returnsTheBankBefore(Checks c) {
        PaddyTerraces x = new PaddyTerraces();
        c.due("the bank at first", x.setField(1, 2, 20, 0), 60);
        c.due("the least bank", x.setField(1, 2, 120, 0), 20);
        c.due("the highest bank", x.setField(1, 2, 120, 9), 120);
        c.due("the same bank again", x.setField(1, 2, 60, 2), 120);
        c.due("another field", x.setField(2, 1, 60, 2), 60);
    }

    private static void refusedIfThereIsNoSuchField(Checks c) {
        Slopes.dueNoSuchField(c, "setField", Slopes::busyOfSize, (x, t, f) -> x.setField(t, f, 30, 5),
            (x, t, f) -> x.setField(t, f, 19, 5), (x, t, f) -> x.setField(t, f, 30, 10));
    }

    private static void refusedIfNotInBounds(Checks c) {
        int[][] good = {{20, 0}, {20, 9}, {120, 0}, {120, 9}};
        for (int[] row : good) {
            PaddyTerraces x = Slopes.busy();
            x.setField(0, 1, row[0], row[1]);
            c.due("the bank of " + row[0] + " and " + row[1], x.field(0, 1, 1), row[0]);
            c.due("the seepage of " + row[0] + " and " + row[1], x.field(0, 1, 2), row[1]);
        }
        int[][] wrong = {{19, 0}, {19, 9}, {121, 0}, {121, 9}, {20, -1}, {20, 10}, {120, -1}, {120, 10}, {0, 5},
            {-20, 5}, {5, 60}, {Integer.MAX_VALUE, 5}, {Integer.MIN_VALUE, 5}, {60, Integer.MAX_VALUE},
            {60, Integer.MIN_VALUE}};
        for (int[] row : wrong) {
            c.refusedArgument("setField(0, 1, " + row[0] + ", " + row[1] + ")", Slopes::busy,
                x -> x.setField(0, 1, row[0], row[1]));
        }
    }
}
