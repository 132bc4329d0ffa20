/** Promise 1: how long an object is good for, and what the terms say of a slope, a field and the calendar at first. */
public final class P01ObjectBoundsTest {
    public static void main(String[] args) {
        calls().run();
        terms().run();
    }

    static Sentences calls() {
        Sentences s = Sentences.ofSection("What it is", "Promise 1");
        s.test("An object is used for at most 512 calls after it has been made", P01ObjectBoundsTest::goodFor512Calls);
        return s;
    }

    static Sentences terms() {
        Sentences s = Sentences.ofSection("Terms", "Promise 1");
        s.test("There are h terraces, 2 to 8, 0 the uppermost one, each with w fields side by side, 2 to 8.",
            P01ObjectBoundsTest::terracesAndFields);
        s.test("a depth of water, 0 to 200 (0, at first)", P01ObjectBoundsTest::depthAtFirst);
        s.test("a bank, 20 to 120 (60, at first)", P01ObjectBoundsTest::bankAtFirst);
        s.test("a seepage, 0 to 9 (2, at first)", P01ObjectBoundsTest::seepageAtFirst);
        s.test("a stone in its outlet, 0 to its bank (30, at first)", P01ObjectBoundsTest::stoneAtFirst);
        s.test("a side to which its outlet leads: -1, 0 or 1 (0, at first)", P01ObjectBoundsTest::sideAtFirst);
        s.test("a number 0 to 9 for each field of it (1, at first)", P01ObjectBoundsTest::sharesAtFirst);
        s.test("a rain, 0 to 60, a spring, 0 to 400, and a draught, 0 to 20 (at first 0, 60 and 3)",
            P01ObjectBoundsTest::weatherAtFirst);
        return s;
    }

    /** Calls of all kinds, refused ones too; the last of them answer as on an object that was asked little. */
    private static void goodFor512Calls(Checks c) {
        PaddyTerraces x = new PaddyTerraces();
        int calls = 0;
        for (; calls < 500; calls += 5) {
            x.count(4);
            x.advise(1, 0);
            x.foresee(2, 1);
            x.moveStone(0, 0, calls % 2 == 0 ? 30 : 31);
            tryRefused(x);
        }
        x.lay(3, 2);
        x.setShare(0, 2);
        x.plant(0, 0, 20);
        calls += 3;
        PaddyTerraces y = Slopes.ofSize(3, 2);
        y.setShare(0, 2);
        y.plant(0, 0, 20);
        for (; calls < 510; calls++) {
            c.due("pass(1), call " + (calls + 1), x.pass(1), y.pass(1));
        }
        c.due("foresee(20, 2), call 511", x.foresee(20, 2), y.foresee(20, 2));
        c.due("digest(), call 512", x.digest(), y.digest());
    }

    private static void tryRefused(PaddyTerraces x) {
        try {
            x.lay(9, 9);
        } catch (IllegalArgumentException e) {
            // It is one of the 512 calls all the same.
        }
    }

    /** The spring, which brings water to terrace 0, tells which terrace is the uppermost. */
    private static void terracesAndFields(Checks c) {
        for (int[] size : Slopes.SIZES) {
            int h = size[0];
            int w = size[1];
            PaddyTerraces x = Slopes.ofSize(h, w);
            c.dueCounts(h + " by " + w, x, h, w);
            Slopes.passOne(x, 0, 160, 0);
            c.due("terrace 0, " + h + " by " + w, x.field(0, w - 1, 0) > 0 ? 1 : 0, 1);
            int last = x.field(h - 1, w - 1, 0);
            c.due("the last terrace, " + h + " by " + w, last > 0 ? 1 : 0, h == 2 && w == 2 ? 1 : 0);
        }
    }

    private static void depthAtFirst(Checks c) {
        dueAtFirst(c, 0, 0);
        c.due("count(4)", new PaddyTerraces().count(4), 0);
    }

    private static void bankAtFirst(Checks c) {
        dueAtFirst(c, 1, 60);
    }

    private static void seepageAtFirst(Checks c) {
        dueAtFirst(c, 2, 2);
    }

    private static void stoneAtFirst(Checks c) {
        dueAtFirst(c, 3, 30);
    }

    private static void sideAtFirst(Checks c) {
        dueAtFirst(c, 4, 0);
    }

    private static void dueAtFirst(Checks c, int what, int want) {
        dueOfEachField(c, "new", new PaddyTerraces(), what, want);
        for (int[] size : Slopes.SIZES) {
            dueOfEachField(c, size[0] + " by " + size[1], Slopes.ofSize(size[0], size[1]), what, want);
        }
    }

    private static void dueOfEachField(Checks c, String when, PaddyTerraces x, int what, int want) {
        int h = x.count(0);
        int w = x.count(1);
        for (int t = 0; t < h; t++) {
            for (int f = 0; f < w; f++) {
                c.due(when + ": field(" + t + ", " + f + ", " + what + ")", x.field(t, f, what), want);
            }
        }
    }

    private static void sharesAtFirst(Checks c) {
        dueShares(c, "new", new PaddyTerraces());
        for (int[] size : Slopes.SIZES) {
            dueShares(c, size[0] + " by " + size[1], Slopes.ofSize(size[0], size[1]));
        }
    }

    private static void dueShares(Checks c, String when, PaddyTerraces x) {
        int w = x.count(1);
        for (int f = 0; f < w; f++) {
            c.due(when + ": setShare(" + f + ", 9)", x.setShare(f, 9), 1);
        }
    }

    private static void weatherAtFirst(Checks c) {
        PaddyTerraces x = new PaddyTerraces();
        for (int day = 0; day < 30; day++) {
            c.due("weather(" + day + ", 0)", x.weather(day, 0), 0);
            c.due("weather(" + day + ", 1)", x.weather(day, 1), 60);
            c.due("weather(" + day + ", 2)", x.weather(day, 2), 3);
        }
    }
}
