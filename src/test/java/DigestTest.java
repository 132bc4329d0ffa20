import java.util.function.Supplier;

/** Promise 17: digest. */
public final class DigestTest {
    public static void main(String[] args) {
        Checks c = new Checks();
        due(c, "a new slope", PaddyTerraces::new, 1, 1, 1, 1);
        due(c, "with all that can be set", DigestTest::set, 9, 0, 1, 4);
        due(c, "on day 3", () -> after(set(), 3), 9, 0, 1, 4);
        due(c, "on day 43", () -> after(set(), 43), 9, 0, 1, 4);
        due(c, "2 by 3", () -> laid(2, 3), 1, 1, 1);
        due(c, "8 by 8", () -> laid(8, 8), 1, 1, 1, 1, 1, 1, 1, 1);
        PaddyTerraces x = after(set(), 3);
        c.due("digest() a second time", x.digest(), x.digest());
        c.end();
    }

    private static PaddyTerraces set() {
        PaddyTerraces x = new PaddyTerraces();
        x.setShare(0, 9);
        x.setShare(1, 0);
        x.setShare(3, 4);
        x.setDay(3, 1, 2, 4);
        x.setDay(29, 60, 400, 20);
        x.turn(0, 0, -1);
        x.setField(1, 1, 44, 6);
        x.moveStone(2, 3, 17);
        x.plant(2, 1, 13);
        x.plant(3, 3, 4);
        return x;
    }

    private static PaddyTerraces after(PaddyTerraces x, int days) {
        x.pass(days);
        return x;
    }

    private static PaddyTerraces laid(int h, int w) {
        PaddyTerraces x = set();
        x.lay(h, w);
        x.pass(1);
        return x;
    }

    private static void due(Checks c, String when, Supplier<PaddyTerraces> slope, int... shares) {
        c.due("digest(), " + when, slope.get().digest(), reckoned(slope, shares));
    }

    /** Each terrace is asked of an object of its own, which is good for 512 calls. */
    private static long reckoned(Supplier<PaddyTerraces> slope, int... shares) {
        PaddyTerraces x = slope.get();
        int h = x.count(0);
        int w = x.count(1);
        long d = 443;
        for (int what = 0; what <= 8; what++) {
            d = d * 31 + x.count(what);
        }
        for (int share : shares) {
            d = d * 31 + share;
        }
        for (int t = 0; t < h; t++) {
            PaddyTerraces y = slope.get();
            for (int k = 0; k < w * 12; k++) {
                d = d * 31 + y.field(t, k / 12, k % 12);
            }
        }
        for (int k = 0; k < 90; k++) {
            d = d * 31 + x.weather(k / 3, k % 3);
        }
        return d;
    }
}
