/** Promise 1: a new object. */
public final class NewObjectTest {
    public static void main(String[] args) {
        Checks c = new Checks();
        numbersOfANewSlope(c);
        sharesOfANewSlope(c);
        objectsAreApart(c);
        c.end();
    }

    private static void numbersOfANewSlope(Checks c) {
        PaddyTerraces x = new PaddyTerraces();
        int[] counts = {4, 4, 0, 0, 0, 0, 0, 0, 0};
        for (int what = 0; what < counts.length; what++) {
            c.due("new: count(" + what + ")", x.count(what), counts[what]);
        }
        for (int t = 0; t < 4; t++) {
            for (int f = 0; f < 4; f++) {
                c.dueField("new", x, t, f, 0, 60, 2, 30, 0, 0, 0, 0, 0, 0, 0, 0);
            }
        }
        for (int day = 0; day < 30; day++) {
            c.due("new: weather(" + day + ", 0)", x.weather(day, 0), 0);
            c.due("new: weather(" + day + ", 1)", x.weather(day, 1), 60);
            c.due("new: weather(" + day + ", 2)", x.weather(day, 2), 3);
        }
        c.due("new: depth()", x.depth(), 0.0);
        c.dueIndex("new: field(4, 0, 0)", x, () -> x.field(4, 0, 0));
        c.dueIndex("new: field(0, 4, 0)", x, () -> x.field(0, 4, 0));
    }

    private static void sharesOfANewSlope(Checks c) {
        PaddyTerraces x = new PaddyTerraces();
        for (int f = 0; f < 4; f++) {
            c.due("new: setShare(" + f + ", 1)", x.setShare(f, 1), 1);
        }
    }

    private static void objectsAreApart(Checks c) {
        PaddyTerraces x = new PaddyTerraces();
        long before = x.digest();
        PaddyTerraces y = new PaddyTerraces();
        y.setDay(0, 1, 2, 3);
        y.moveStone(0, 0, 1);
        y.pass(3);
        y.lay(8, 8);
        c.due("digest() of another object", x.digest(), before);
    }
}
