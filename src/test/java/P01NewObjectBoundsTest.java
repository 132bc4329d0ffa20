/** Promise 1: the boundaries of a new object. */
public final class P01NewObjectBoundsTest {
    public static void main(String[] args) {
        sentences().run();
    }

    static Sentences sentences() {
        Sentences s = Sentences.ofPromise(1);
        s.test("Creates a slope of 4 terraces of 4 fields.", P01NewObjectBoundsTest::createsFourTerracesOfFourFields);
        return s;
    }

    private static void createsFourTerracesOfFourFields(Checks c) {
        c.dueCounts("new", new PaddyTerraces(), 4, 4, 0, 0, 0, 0, 0, 0, 0);
        c.dueField("the last field", new PaddyTerraces(), 3, 3, 0, 60, 2, 30, 0, 0, 0, 0, 0, 0, 0, 0);
        c.refusedIndex("field(4, 3, 0)", PaddyTerraces::new, x -> x.field(4, 3, 0));
        c.refusedIndex("field(3, 4, 0)", PaddyTerraces::new, x -> x.field(3, 4, 0));
        c.refusedIndex("setShare(4, 1)", PaddyTerraces::new, x -> x.setShare(4, 1));
        c.due("setShare(3, 1)", new PaddyTerraces().setShare(3, 1), 1);
        c.dueSame("new and laid 4 by 4", PaddyTerraces::new, () -> Slopes.ofSize(4, 4));
    }
}
