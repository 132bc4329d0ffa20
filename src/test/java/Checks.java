import java.util.List;
import java.util.function.Consumer;
import java.util.function.Supplier;

/** What every test here needs: it compares answers with those due, and counts the wrong ones. */
final class Checks {
    interface Call {
        void make();
    }

    private final String name;
    private int wrong;

    Checks() {
        this("");
    }

    /** The name stands before all that is told. */
    Checks(String name) {
        this.name = name;
    }

    int wrong() {
        return wrong;
    }

    void due(String call, long got, long want) {
        if (got != want) {
            tell(call + " answered " + got + ", due is " + want);
        }
    }

    void due(String call, double got, double want) {
        if (got != want) {
            tell(call + " answered " + got + ", due is " + want);
        }
    }

    /** The call on x throws just this class (no subclass, as the machine's own would be), and changes nothing. */
    void dueThrow(String call, PaddyTerraces x, Class<? extends RuntimeException> want, Call made) {
        long before = x.digest();
        String got = thrownBy(made);
        if (!got.equals(want.getSimpleName())) {
            tell(call + " threw " + got + ", due is " + want.getSimpleName());
        }
        if (x.digest() != before) {
            tell(call + " changed something");
        }
    }

    void dueIndex(String call, PaddyTerraces x, Call made) {
        dueThrow(call, x, IndexOutOfBoundsException.class, made);
    }

    void dueArgument(String call, PaddyTerraces x, Call made) {
        dueThrow(call, x, IllegalArgumentException.class, made);
    }

    void dueState(String call, PaddyTerraces x, Call made) {
        dueThrow(call, x, IllegalStateException.class, made);
    }

    private static String thrownBy(Call made) {
        try {
            made.make();
            return "nothing";
        } catch (RuntimeException e) {
            return e.getClass().getSimpleName();
        }
    }

    /**
     * On such a slope the call throws just this class, and after it everything that can be asked is answered as on
     * a slope without this call, on this day and later.
     */
    void refused(String call, Supplier<PaddyTerraces> slope, Class<? extends RuntimeException> want,
            Consumer<PaddyTerraces> made) {
        PaddyTerraces x = slope.get();
        String got = thrownBy(() -> made.accept(x));
        if (!got.equals(want.getSimpleName())) {
            tell(call + " threw " + got + ", due is " + want.getSimpleName());
        }
        dueSame("after " + call, afterTrying(slope, made), slope);
    }

    void refusedIndex(String call, Supplier<PaddyTerraces> slope, Consumer<PaddyTerraces> made) {
        refused(call, slope, IndexOutOfBoundsException.class, made);
    }

    void refusedArgument(String call, Supplier<PaddyTerraces> slope, Consumer<PaddyTerraces> made) {
        refused(call, slope, IllegalArgumentException.class, made);
    }

    void refusedState(String call, Supplier<PaddyTerraces> slope, Consumer<PaddyTerraces> made) {
        refused(call, slope, IllegalStateException.class, made);
    }

    private static Supplier<PaddyTerraces> afterTrying(Supplier<PaddyTerraces> slope, Consumer<PaddyTerraces> made) {
        return () -> {
            PaddyTerraces x = slope.get();
            thrownBy(() -> made.accept(x));
            return x;
        };
    }

    /** Everything that can be asked is answered alike by both slopes. */
    void dueSame(String when, Supplier<PaddyTerraces> slope, Supplier<PaddyTerraces> due) {
        List<String> got = Answers.of(slope);
        List<String> want = Answers.of(due);
        if (got.size() != want.size()) {
            tell(when + ": the slope is of another size");
            return;
        }
        for (int k = 0; k < got.size(); k++) {
            if (!got.get(k).equals(want.get(k))) {
                tell(when + ": " + got.get(k) + ", due is " + want.get(k));
                return;
            }
        }
    }

    /** All numbers of a field, in the order of field(). */
    void dueField(String when, PaddyTerraces x, int t, int f, int... want) {
        for (int what = 0; what < want.length; what++) {
            due(when + ": field(" + t + ", " + f + ", " + what + ")", x.field(t, f, what), want[what]);
        }
    }

    /** The depths of all fields, in the order of terraces and columns. */
    void dueDepths(String when, PaddyTerraces x, int... want) {
        int w = x.count(1);
        for (int cell = 0; cell < want.length; cell++) {
            int t = cell / w;
            int f = cell % w;
            due(when + ": field(" + t + ", " + f + ", 0)", x.field(t, f, 0), want[cell]);
        }
    }

    /** The counts from the first one on, in the order of count(). */
    void dueCounts(String when, PaddyTerraces x, int... want) {
        for (int what = 0; what < want.length; what++) {
            due(when + ": count(" + what + ")", x.count(what), want[what]);
        }
    }

    void tell(String what) {
        wrong++;
        System.out.println(name + what);
    }

    void end() {
        if (wrong > 0) {
            System.out.println(wrong + " answers are not as due");
            System.exit(1);
        }
    }
}
