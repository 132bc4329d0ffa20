/** What every test here needs: it compares answers with those due, and counts the wrong ones. */
final class Checks {
    interface Call {
        void make();
    }

    private int wrong;

    void due(String call, long got, long want) {
        if (got != want) {
            tell(call + " answered " + got + ", due is " + want);
        }
    }

    void due(String call, double got, double want) {
        if (got != want) {
            tell(call + " answered " + got + ", due is " + want);
        }
    }

    /** The call on x throws just this class (no subclass, as the machine's own would be), and changes nothing. */
    void dueThrow(String call, PaddyTerraces x, Class<? extends RuntimeException> want, Call made) {
        long before = x.digest();
        String got = "nothing";
        try {
            made.make();
        } catch (RuntimeException e) {
            got = e.getClass().getSimpleName();
        }
        if (!got.equals(want.getSimpleName())) {
            tell(call + " threw " + got + ", due is " + want.getSimpleName());
        }
        if (x.digest() != before) {
            tell(call + " changed something");
        }
    }

    void dueIndex(String call, PaddyTerraces x, Call made) {
        dueThrow(call, x, IndexOutOfBoundsException.class, made);
    }

    void dueArgument(String call, PaddyTerraces x, Call made) {
        dueThrow(call, x, IllegalArgumentException.class, made);
    }

    void dueState(String call, PaddyTerraces x, Call made) {
        dueThrow(call, x, IllegalStateException.class, made);
    }

    /** All numbers of a field, in the order of field(). */
    void dueField(String when, PaddyTerraces x, int t, int f, int... want) {
        for (int what = 0; what < want.length; what++) {
            due(when + ": field(" + t + ", " + f + ", " + what + ")", x.field(t, f, what), want[what]);
        }
    }

    /** The depths of all fields, in the order of terraces and columns. */
    void dueDepths(String when, PaddyTerraces x, int... want) {
        int w = x.count(1);
        for (int cell = 0; cell < want.length; cell++) {
            int t = cell / w;
            int f = cell % w;
            due(when + ": field(" + t + ", " + f + ", 0)", x.field(t, f, 0), want[cell]);
        }
    }

    void tell(String what) {
        wrong++;
        System.out.println(what);
    }

    void end() {
        if (wrong > 0) {
            System.out.println(wrong + " answers are not as due");
            System.exit(1);
        }
    }
}
