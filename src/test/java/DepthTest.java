/** Promise 16: depth. */
public final class DepthTest {
    public static void main(String[] args) {
        Checks c = new Checks();
        PaddyTerraces x = Slopes.withoutSpring(2, 3);
        c.due("depth() of a new slope", x.depth(), 0.0);
        Slopes.close(x, 0, 1);
        x.setShare(1, 1);
        Slopes.passOne(x, 0, 1, 0);
        c.due("depth() by 1 in 6 fields", x.depth(), 1.0 / 6);
        Slopes.passOne(x, 0, 2, 0);
        c.due("depth() by 3 in 6 fields", x.depth(), 0.5);
        Slopes.passOne(x, 0, 100, 0);
        c.due("depth() by 103 in 6 fields", x.depth(), 103.0 / 6);
        x.lay(8, 8);
        c.due("depth() of a slope laid anew", x.depth(), 0.0);
        for (int f = 1; f < 8; f++) {
            x.setShare(f, 0);
        }
        Slopes.close(x, 0, 0);
        Slopes.passOne(x, 0, 63, 0);
        c.due("depth() by 63 in 64 fields", x.depth(), 63.0 / 64);
        c.end();
    }
}
