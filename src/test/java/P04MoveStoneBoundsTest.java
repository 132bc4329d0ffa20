/** Promise 4: the boundaries of moveStone. */
public final class P04MoveStoneBoundsTest {
    public static void main(String[] args) {
        sentences().run();
    }

    static Sentences sentences() {
        Sentences s = Sentences.ofPromise(4);
        s.test("Returns by how much it is higher than before (less than 0 if it is lower).",
            P04MoveStoneBoundsTest::returnsByHowMuchItIsHigher);
        s.test("if there is no such field", P04MoveStoneBoundsTest::refusedIfThereIsNoSuchField);
        s.test("if stone is not 0 to the bank", P04MoveStoneBoundsTest::refusedIfStoneIsNot0ToTheBank);
        return s;
    }

    private static void returnsByHowMuchItIsHigher(Checks c) {
        PaddyTerraces x = new PaddyTerraces();
        c.due("as high as it is", x.moveStone(3, 0, 30), 0);
        c.due("one higher", x.moveStone(3, 0, 31), 1);
        c.due("one lower", x.moveStone(3, 0, 30), -1);
        c.due("down to 0", x.moveStone(3, 0, 0), -30);
        c.due("0 again", x.moveStone(3, 0, 0), 0);
        x.setField(3, 0, 120, 2);
        c.due("from 0 up to the highest bank", x.moveStone(3, 0, 120), 120);
        c.due("from there down to 0", x.moveStone(3, 0, 0), -120);
        c.due("count(8)", x.count(8), 1 + 1 + 30 + 120 + 120);
    }

    private static void refusedIfThereIsNoSuchField(Checks c) {
        Slopes.dueNoSuchField(c, "moveStone", Slopes::busyOfSize, (x, t, f) -> x.moveStone(t, f, 10),
            (x, t, f) -> x.moveStone(t, f, -1), (x, t, f) -> x.moveStone(t, f, 121));
    }

    private static void refusedIfStoneIsNot0ToTheBank(Checks c) {
        int[] banks = {20, 21, 60, 119, 120};
        for (int bank : banks) {
            dueTaken(c, bank, 0);
            dueTaken(c, bank, bank);
            int[] wrong = {-1, bank + 1, -bank, Integer.MAX_VALUE, Integer.MIN_VALUE};
            for (int stone : wrong) {
                c.refusedArgument("moveStone(0, 1, " + stone + ") with the bank " + bank, () -> withBank(bank),
                    x -> x.moveStone(0, 1, stone));
            }
        }
        c.refusedArgument("moveStone(0, 1, 61) with the bank at first", PaddyTerraces::new,
            x -> x.moveStone(0, 1, 61));
        c.refusedArgument("the highest bank of another field", () -> {
            PaddyTerraces x = Slopes.busy();
            x.setField(0, 0, 120, 2);
            return x;
        }, x -> x.moveStone(0, 1, 61));
    }

    private static PaddyTerraces withBank(int bank) {
        PaddyTerraces x = Slopes.busy();
        x.setField(0, 1, bank, 2);
        return x;
    }

    private static void dueTaken(Checks c, int bank, int stone) {
        PaddyTerraces x = withBank(bank);
        int moved = x.count(8);
        String call = "moveStone(0, 1, " + stone + ") with the bank " + bank;
        c.due(call, x.moveStone(0, 1, stone), stone - 10);
        c.due(call + ": its stone", x.field(0, 1, 3), stone);
        c.due(call + ": count(8)", x.count(8) - moved, stone > 10 ? stone - 10 : 10 - stone);
    }
}
