/** Promise 17: digest. */
public final class DigestTest {
    public static void main(String[] args) {
        Checks c = new Checks();
        PaddyTerraces x = new PaddyTerraces();
        c.due("digest() of a new slope", x.digest(), reckoned(x, 1, 1, 1, 1));
        x.setShare(0, 9);
        x.setShare(1, 0);
        x.setShare(3, 4);
        c.due("digest() with shares", x.digest(), reckoned(x, 9, 0, 1, 4));
        x.setDay(3, 1, 2, 4);
        x.setDay(29, 60, 400, 20);
        c.due("digest() with weather", x.digest(), reckoned(x, 9, 0, 1, 4));
        x.turn(0, 0, -1);
        x.setField(1, 1, 44, 6);
        x.moveStone(2, 3, 17);
        x.plant(2, 1, 13);
        x.plant(3, 3, 4);
        c.due("digest() with crops", x.digest(), reckoned(x, 9, 0, 1, 4));
        x.pass(3);
        c.due("digest() on day 3", x.digest(), reckoned(x, 9, 0, 1, 4));
        c.due("digest() a second time", x.digest(), reckoned(x, 9, 0, 1, 4));
        x.pass(40);
        c.due("digest() on day 43", x.digest(), reckoned(x, 9, 0, 1, 4));
        x.lay(2, 3);
        c.due("digest() of 2 by 3", x.digest(), reckoned(x, 1, 1, 1));
        x.lay(8, 8);
        x.pass(1);
        c.due("digest() of 8 by 8", x.digest(), reckoned(x, 1, 1, 1, 1, 1, 1, 1, 1));
        c.end();
    }

    private static long reckoned(PaddyTerraces x, int... shares) {
        long d = 443;
        for (int what = 0; what <= 8; what++) {
            d = d * 31 + x.count(what);
        }
        for (int share : shares) {
            d = d * 31 + share;
        }
        for (int t = 0; t < x.count(0); t++) {
            for (int f = 0; f < x.count(1); f++) {
                for (int what = 0; what <= 11; what++) {
                    d = d * 31 + x.field(t, f, what);
                }
            }
        }
        for (int day = 0; day < 30; day++) {
            for (int what = 0; what <= 2; what++) {
                d = d * 31 + x.weather(day, what);
            }
        }
        return d;
    }
}
