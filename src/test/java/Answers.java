import java.util.ArrayList;
import java.util.List;
import java.util.function.LongSupplier;
import java.util.function.Supplier;

/**
 * Everything that can be asked of a slope, each answer as a text. A slope is made anew for each part of the questions,
 * since an object is good for 512 calls, and since some of the questions change it.
 */
final class Answers {
    private final List<String> all = new ArrayList<>();

    private Answers() {
    }

    static List<String> of(Supplier<PaddyTerraces> slope) {
        Answers answers = new Answers();
        PaddyTerraces first = slope.get();
        int h = first.count(0);
        int w = first.count(1);
        answers.askBooks(first);
        answers.askWeather(slope.get());
        answers.askAhead(slope.get());
        for (int t = 0; t < h; t++) {
            answers.askTerrace(slope.get(), t, w);
        }
        answers.askShares(slope.get(), w);
        answers.askLater(slope.get());
        return answers.all;
    }

    /** An exception is an answer, too: ahead of day 2000 there are some. */
    private void ask(String call, LongSupplier made) {
        String got;
        try {
            got = Long.toString(made.getAsLong());
        } catch (RuntimeException e) {
            got = e.getClass().getSimpleName();
        }
        all.add(call + " answered " + got);
    }

    private void askBooks(PaddyTerraces x) {
        for (int k = 0; k <= 8; k++) {
            int what = k;
            ask("count(" + what + ")", () -> x.count(what));
        }
        ask("digest()", x::digest);
        ask("depth(), in its bits,", () -> Double.doubleToLongBits(x.depth()));
    }

    private void askWeather(PaddyTerraces x) {
        for (int k = 0; k < 90; k++) {
            int day = k / 3;
            int what = k % 3;
            ask("weather(" + day + ", " + what + ")", () -> x.weather(day, what));
        }
    }

    private void askAhead(PaddyTerraces x) {
        for (int k = 0; k <= 3; k++) {
            int what = k;
            ask("foresee(1, " + what + ")", () -> x.foresee(1, what));
            ask("foresee(20, " + what + ")", () -> x.foresee(20, what));
        }
        for (int k = 0; k <= 2; k++) {
            int what = k;
            ask("advise(2, " + what + ")", () -> x.advise(2, what));
        }
    }

    private void askTerrace(PaddyTerraces x, int t, int w) {
        for (int k = 0; k < w * 12; k++) {
            int f = k / 12;
            int what = k % 12;
            ask("field(" + t + ", " + f + ", " + what + ")", () -> x.field(t, f, what));
        }
    }

    private void askShares(PaddyTerraces x, int w) {
        for (int k = 0; k < w; k++) {
            int f = k;
            ask("setShare(" + f + ", 0)", () -> x.setShare(f, 0));
        }
    }

    private void askLater(PaddyTerraces x) {
        ask("pass(1)", () -> x.pass(1));
        ask("digest() a day later", x::digest);
        ask("pass(10)", () -> x.pass(10));
        ask("digest() 11 days later", x::digest);
    }
}
