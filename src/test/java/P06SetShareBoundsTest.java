/** Promise 6: the boundaries of setShare. */
public final class P06SetShareBoundsTest {
    public static void main(String[] args) {
        sentences().run();
    }

    static Sentences sentences() {
        Sentences s = Sentences.ofPromise(6);
        s.test("Returns the share before.", P06SetShareBoundsTest::returnsTheShareBefore);
        s.test("if there is no such column", P06SetShareBoundsTest::refusedIfThereIsNoSuchColumn);
        s.test("if share is not 0 to 9", P06SetShareBoundsTest::refusedIfShareIsNot0To9);
        return s;
    }

    private static void returnsTheShareBefore(Checks c) {
        PaddyTerraces x = new PaddyTerraces();
        c.due("at first", x.setShare(0, 0), 1);
        c.due("after 0", x.setShare(0, 9), 0);
        c.due("after 9", x.setShare(0, 9), 9);
        c.due("after 9 again", x.setShare(0, 1), 9);
        c.due("another column", x.setShare(3, 1), 1);
    }

    /** The number of columns counts, not that of terraces, nor that of a slope before. */
    private static void refusedIfThereIsNoSuchColumn(Checks c) {
        dueColumns(c, 4, 4);
        for (int[] size : Slopes.SIZES) {
            dueColumns(c, size[0], size[1]);
        }
        c.refusedIndex("column 2 on a slope of 8 columns before", () -> {
            PaddyTerraces x = Slopes.busyOfSize(8, 8);
            x.lay(8, 2);
            return x;
        }, x -> x.setShare(2, 1));
    }

    private static void dueColumns(Checks c, int h, int w) {
        PaddyTerraces x = Slopes.ofSize(h, w);
        c.due("the first column of " + w, x.setShare(0, 5), 1);
        c.due("the last column of " + w, x.setShare(w - 1, 6), 1);
        int[] wrong = {-1, w, w + 1, -w, Integer.MAX_VALUE, Integer.MIN_VALUE};
        for (int f : wrong) {
            int[] shares = {1, 10, -1};
            for (int share : shares) {
                c.refusedIndex("setShare(" + f + ", " + share + ") of " + h + " by " + w,
                    () -> Slopes.busyOfSize(h, w), y -> y.setShare(f, share));
            }
        }
    }

    private static void refusedIfShareIsNot0To9(Checks c) {
        int[] good = {0, 9};
        for (int share : good) {
            PaddyTerraces x = Slopes.busy();
            c.due("setShare(0, " + share + ")", x.setShare(0, share), 2);
            c.due("the share then", x.setShare(0, 5), share);
        }
        int[] wrong = {-1, 10, -9, Integer.MAX_VALUE, Integer.MIN_VALUE};
        for (int share : wrong) {
            c.refusedArgument("setShare(0, " + share + ")", Slopes::busy, x -> x.setShare(0, share));
            c.refusedArgument("setShare(2, " + share + ")", Slopes::busy, x -> x.setShare(2, share));
        }
    }
}
