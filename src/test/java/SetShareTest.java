/** Promise 6: setShare. */
public final class SetShareTest {
    public static void main(String[] args) {
        Checks c = new Checks();
        shareBefore(c);
        springBySharesCut(c);
        noSharesNoSpring(c);
        wrongOnes(c);
        c.end();
    }

    private static void shareBefore(Checks c) {
        PaddyTerraces x = new PaddyTerraces();
        c.due("setShare(3, 9)", x.setShare(3, 9), 1);
        c.due("setShare(3, 0)", x.setShare(3, 0), 9);
        c.due("setShare(3, 4)", x.setShare(3, 4), 0);
        c.due("setShare(0, 0)", x.setShare(0, 0), 1);
    }

    private static void springBySharesCut(Checks c) {
        PaddyTerraces x = new PaddyTerraces();
        x.lay(2, 4);
        for (int f = 0; f < 4; f++) {
            Slopes.close(x, 0, f);
        }
        x.setShare(0, 9);
        x.setShare(1, 0);
        x.setShare(2, 2);
        x.setShare(3, 3);
        Slopes.passOne(x, 0, 100, 0);
        c.dueDepths("spring 100 by the shares 9, 0, 2, 3", x, 64, 0, 14, 21, 0, 0, 0, 0);
        c.due("what is cut does not come to the brook", x.count(5), 0);
    }

    private static void noSharesNoSpring(Checks c) {
        PaddyTerraces x = Slopes.withoutSpring(2, 2);
        Slopes.passOne(x, 0, 400, 0);
        c.dueDepths("no shares", x, 0, 0, 0, 0);
        c.due("no shares: count(5)", x.count(5), 0);
    }

    private static void wrongOnes(Checks c) {
        PaddyTerraces x = new PaddyTerraces();
        x.lay(4, 2);
        int[] noColumns = {-1, 2, 3, 8, Integer.MAX_VALUE, Integer.MIN_VALUE};
        for (int f : noColumns) {
            c.dueIndex("setShare(" + f + ", 1)", x, () -> x.setShare(f, 1));
            c.dueIndex("setShare(" + f + ", 10)", x, () -> x.setShare(f, 10));
        }
        int[] wrong = {-1, 10, Integer.MAX_VALUE, Integer.MIN_VALUE};
        for (int share : wrong) {
            c.dueArgument("setShare(1, " + share + ")", x, () -> x.setShare(1, share));
        }
    }
}
