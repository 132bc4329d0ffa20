import java.util.ArrayList;
import java.util.List;
import java.util.function.Consumer;
import java.util.function.Supplier;

/** Promises 2 to 15: what the terms say of exceptions, of every call that can throw one. */
public final class TermsExceptionsBoundsTest {
    public static void main(String[] args) {
        sentences().run();
    }

    static Sentences sentences() {
        Sentences s = Sentences.ofSection("Terms", "Promises 2 to 15");
        s.test("A method that throws an exception changes nothing.", TermsExceptionsBoundsTest::changesNothing);
        s.test("If several exceptions apply, the one that is named first is thrown.",
            TermsExceptionsBoundsTest::theOneNamedFirst);
        return s;
    }

    /** Every refused call there is, one after the other on one slope. */
    private static void changesNothing(Checks c) {
        Supplier<PaddyTerraces> lastDay = () -> {
            PaddyTerraces x = Slopes.onDay(1999);
            x.plant(0, 0, 5);
            x.pass(1);
            return x;
        };
        c.dueSame("after all refused calls", () -> afterAllRefused(c, Slopes.busy()), Slopes::busy);
        c.dueSame("after all refused calls on day 2000", () -> afterAllRefused(c, lastDay.get()), lastDay);
    }

    private static PaddyTerraces afterAllRefused(Checks c, PaddyTerraces x) {
        for (Consumer<PaddyTerraces> call : refusedCalls()) {
            boolean refused = false;
            try {
                call.accept(x);
            } catch (RuntimeException e) {
                refused = true;
            }
            c.due("a call is refused", refused ? 1 : 0, 1);
        }
        return x;
    }

    private static List<Consumer<PaddyTerraces>> refusedCalls() {
        List<Consumer<PaddyTerraces>> calls = new ArrayList<>();
        calls.add(x -> x.lay(1, 9));
        calls.add(x -> x.setField(0, 9, 30, 1));
        calls.add(x -> x.setField(0, 0, 30, 10));
        calls.add(x -> x.setField(0, 0, 121, 1));
        calls.add(x -> x.moveStone(9, 0, 5));
        calls.add(x -> x.moveStone(0, 0, 121));
        calls.add(x -> x.turn(-1, 0, 1));
        calls.add(x -> x.turn(0, 0, 2));
        calls.add(x -> x.setShare(9, 2));
        calls.add(x -> x.setShare(0, 10));
        calls.add(x -> x.setDay(30, 1, 2, 3));
        calls.add(x -> x.setDay(0, 1, 2, 21));
        calls.add(x -> x.setDay(0, 1, 401, 3));
        calls.add(x -> x.setDay(0, 61, 2, 3));
        calls.add(x -> x.plant(0, 9, 5));
        calls.add(x -> x.plant(1, 1, 21));
        calls.add(x -> x.plant(0, 0, 5));
        calls.add(x -> x.reap(9, 9));
        calls.add(x -> x.reap(0, 0));
        calls.add(x -> x.reap(1, 1));
        calls.add(x -> x.pass(61));
        calls.add(x -> x.field(0, 0, 12));
        calls.add(x -> x.count(9));
        calls.add(x -> x.weather(0, 3));
        calls.add(x -> x.foresee(21, 0));
        calls.add(x -> x.foresee(1, 4));
        calls.add(x -> x.advise(11, 0));
        calls.add(x -> x.advise(1, 3));
        return calls;
    }

    private static void theOneNamedFirst(Checks c) {
        Supplier<PaddyTerraces> busy = Slopes::busy;
        c.refusedIndex("setField: no field, and a wrong bank", busy, x -> x.setField(2, 0, 19, 0));
        c.refusedIndex("setField: no field, and a wrong seepage", busy, x -> x.setField(0, 3, 20, 10));
        c.refusedIndex("moveStone: no field, and a wrong stone", busy, x -> x.moveStone(2, 0, 121));
        c.refusedIndex("turn: no field, and a wrong side", busy, x -> x.turn(0, -1, 2));
        c.refusedIndex("setShare: no column, and a wrong share", busy, x -> x.setShare(3, 10));
        c.refusedIndex("setDay: no day, and a wrong rain", busy, x -> x.setDay(30, 61, 0, 0));
        c.refusedIndex("setDay: no day, and a wrong spring", busy, x -> x.setDay(-1, 0, 401, 0));
        c.refusedIndex("setDay: no day, and a wrong draught", busy, x -> x.setDay(30, 0, 0, 21));
        c.refusedIndex("plant: no field, and a wrong age", busy, x -> x.plant(2, 2, 21));
        c.refusedArgument("plant: a wrong age, and a crop", busy, x -> x.plant(0, 0, 21));
        c.refusedArgument("plant: a wrong age, a crop and too deep", busy, x -> x.plant(1, 0, -1));
        c.refusedIndex("reap: no field", busy, x -> x.reap(-1, 0));

        Supplier<PaddyTerraces> lastDay = () -> Slopes.onDay(2000);
        c.refusedArgument("pass: wrong days, and beyond day 2000", lastDay, x -> x.pass(61));
        c.refusedArgument("pass: no days on day 2000", lastDay, x -> x.pass(0));
        c.refusedArgument("foresee: wrong days, a wrong number, beyond day 2000", lastDay, x -> x.foresee(21, 4));
        c.refusedArgument("foresee: wrong days, and beyond day 2000", lastDay, x -> x.foresee(21, 0));
        c.refusedIndex("foresee: a wrong number, and beyond day 2000", lastDay, x -> x.foresee(20, 4));
        c.refusedArgument("advise: wrong days, a wrong number, beyond day 2000", lastDay, x -> x.advise(11, 3));
        c.refusedArgument("advise: wrong days, and beyond day 2000", lastDay, x -> x.advise(11, 0));
        c.refusedIndex("advise: a wrong number, and beyond day 2000", lastDay, x -> x.advise(10, -1));
        c.refusedArgument("foresee: wrong days, and a wrong number", busy, x -> x.foresee(0, -1));
        c.refusedArgument("advise: wrong days, and a wrong number", busy, x -> x.advise(0, -1));
    }
}
