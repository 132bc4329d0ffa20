import java.math.BigInteger;
import java.util.ArrayList;
import java.util.Collections;
import java.util.List;

/** Promise 17: the boundaries of digest. */
public final class P17DigestBoundsTest {
    public static void main(String[] args) {
        sentences().run();
    }

    static Sentences sentences() {
        Sentences s = Sentences.ofPromise(17);
        s.test("A number d starts with 443; for each of the following numbers x, d becomes d * 31 + x, which wraps"
            + " around as a 64-bit integer", P17DigestBoundsTest::wrapsAroundAs64Bits);
        s.test("what count() tells, in its order; the shares; for each field, in the order of terraces and columns,"
            + " what field() tells, in its order; for each day of the calendar what weather() tells, in its order",
            P17DigestBoundsTest::whatIsToldInItsOrder);
        s.test("Returns d.", P17DigestBoundsTest::nothingElseCounts);
        return s;
    }

    /** Reckoned without a bound, and cut to 64 bits at the end. */
    private static long reckoned(List<Integer> numbers) {
        BigInteger d = BigInteger.valueOf(443);
        for (int x : numbers) {
            d = d.multiply(BigInteger.valueOf(31)).add(BigInteger.valueOf(x));
        }
        return d.longValue();
    }

    private static void add(List<Integer> numbers, int... more) {
        for (int x : more) {
            numbers.add(x);
        }
    }

    /** The numbers of a slope as at first, all written out. */
    private static List<Integer> numbersAtFirst(int h, int w) {
        List<Integer> numbers = new ArrayList<>();
        add(numbers, h, w, 0, 0, 0, 0, 0, 0, 0);
        numbers.addAll(Collections.nCopies(w, 1));
        for (int cell = 0; cell < h * w; cell++) {
            add(numbers, 0, 60, 2, 30, 0, 0, 0, 0, 0, 0, 0, 0);
        }
        for (int day = 0; day < 30; day++) {
            add(numbers, 0, 60, 3);
        }
        return numbers;
    }

    private static void wrapsAroundAs64Bits(Checks c) {
        c.due("new", new PaddyTerraces().digest(), reckoned(numbersAtFirst(4, 4)));
        for (int[] size : Slopes.SIZES) {
            c.due(size[0] + " by " + size[1], Slopes.ofSize(size[0], size[1]).digest(),
                reckoned(numbersAtFirst(size[0], size[1])));
        }
    }

    /** Each kind of number is another one than at first, one of them less than 0, and in its place. */
    private static void whatIsToldInItsOrder(Checks c) {
        PaddyTerraces x = Slopes.busy();
        List<Integer> numbers = new ArrayList<>();
        for (int what = 0; what <= 8; what++) {
            int told = x.count(what);
            c.due("count(" + what + ") tells something", told != 0 ? 1 : 0, 1);
            numbers.add(told);
        }
        add(numbers, 2, 1, 0);
        for (int cell = 0; cell < 6; cell++) {
            for (int what = 0; what <= 11; what++) {
                numbers.add(x.field(cell / 3, cell % 3, what));
            }
        }
        c.due("a side less than 0", x.field(0, 1, 4), -1);
        for (int day = 0; day < 30; day++) {
            for (int what = 0; what <= 2; what++) {
                numbers.add(x.weather(day, what));
            }
        }
        c.due("busy", x.digest(), reckoned(numbers));
        dueEachFieldNumberSeen(c, x);
    }

    private static void dueEachFieldNumberSeen(Checks c, PaddyTerraces x) {
        for (int what = 0; what <= 11; what++) {
            int seen = 0;
            for (int cell = 0; cell < 6; cell++) {
                seen += x.field(cell / 3, cell % 3, what) != 0 ? 1 : 0;
            }
            c.due("field(t, f, " + what + ") tells something", seen > 0 ? 1 : 0, 1);
        }
    }

    /** What was laid, set or looked at before does not count if it is gone. */
    private static void nothingElseCounts(Checks c) {
        PaddyTerraces x = Slopes.busyOfSize(8, 8);
        x.foresee(20, 0);
        x.advise(10, 0);
        c.due("a second time", x.digest(), x.digest());
        for (int day = 0; day < 30; day++) {
            x.setDay(day, 0, 60, 3);
        }
        x.lay(2, 2);
        c.due("laid small after large", x.digest(), reckoned(numbersAtFirst(2, 2)));
        x.setShare(1, 9);
        x.setShare(1, 1);
        x.turn(1, 1, 1);
        x.turn(1, 1, 0);
        c.due("set there and back", x.digest(), reckoned(numbersAtFirst(2, 2)));
        x.setShare(1, 9);
        c.due("a share is seen", x.digest() != reckoned(numbersAtFirst(2, 2)) ? 1 : 0, 1);
    }
}
