/** Promise 16: the boundaries of depth. */
public final class P16DepthBoundsTest {
    public static void main(String[] args) {
        sentences().run();
    }

    static Sentences sentences() {
        Sentences s = Sentences.ofPromise(16);
        s.test("Returns the mean of the depths of all fields.", P16DepthBoundsTest::theMeanOfAllFields);
        return s;
    }

    /** No water; all fields alike; and means that are no whole number, the least and the greatest that can be had. */
    private static void theMeanOfAllFields(Checks c) {
        c.due("new", new PaddyTerraces().depth(), 0.0);
        for (int[] size : Slopes.SIZES) {
            int h = size[0];
            int w = size[1];
            c.due(h + " by " + w + ", without water", Slopes.ofSize(h, w).depth(), 0.0);
            PaddyTerraces rain = Slopes.withoutWeather(h, w);
            Slopes.rainOnce(rain, 30);
            c.due(h + " by " + w + ", all 28 deep", rain.depth(), 28.0);
            PaddyTerraces one = oneField(h, w, 1);
            c.due(h + " by " + w + ", one field 1 deep", one.depth(), 1.0 / (h * w));
            PaddyTerraces deep = oneField(h, w, 119);
            c.due(h + " by " + w + ", one field 119 deep", deep.depth(), 119.0 / (h * w));
        }
        c.due("3 in 6 fields", oneField(2, 3, 3).depth(), 0.5);
        c.due("5 in 9 fields", oneField(3, 3, 5).depth(), 5.0 / 9);
        c.due("the deepest: 200 in one of 4 fields, and 20 in another", deepest().depth(), 55.0);
    }

    private static PaddyTerraces oneField(int h, int w, int depth) {
        PaddyTerraces x = Slopes.withoutWeather(h, w);
        Slopes.close(x, 0, w - 1);
        x.setShare(w - 1, 1);
        Slopes.passOne(x, 0, depth, 0);
        return x;
    }

    /** 120 stand in the left field; of the 400 that come to the right, 170 spill to it. */
    private static PaddyTerraces deepest() {
        PaddyTerraces x = Slopes.withoutWeather(2, 2);
        Slopes.close(x, 0, 0);
        x.setShare(0, 1);
        Slopes.passOne(x, 0, 120, 0);
        x.setShare(0, 0);
        x.setShare(1, 1);
        x.setField(0, 1, 20, 0);
        x.turn(0, 1, 1);
        Slopes.passOne(x, 0, 400, 0);
        return x;
    }
}
