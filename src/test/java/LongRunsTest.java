import java.util.function.LongSupplier;

/**
 * Long runs of mixed calls, right and wrong ones, whose answers are compared with those of PaperSlope, and the digest
 * after each call. The runs are drawn by a row of numbers of their own, so that they are the same each time.
 */
public final class LongRunsTest {
    private static final int RUNS = 600;
    private static final int CALLS = 250;

    private final Checks c = new Checks();
    private long seed;
    private int run;
    private int harvests;
    private int deaths;
    private int advice;
    private int leftAlone;
    private int floods;
    private int thrown;

    private PaddyTerraces x;
    private PaperSlope y;
    private String call;
    private LongSupplier ofX;
    private LongSupplier ofY;

    public static void main(String[] args) {
        LongRunsTest test = new LongRunsTest();
        for (int run = 1; run <= RUNS; run++) {
            test.makeRun(run);
        }
        test.dueSomeOfAll();
        test.c.end();
    }

    /** Runs in which nothing of these happened would prove little. */
    private void dueSomeOfAll() {
        int[] seen = {harvests, deaths, advice, leftAlone, floods, thrown};
        for (int kind = 0; kind < seen.length; kind++) {
            if (seen[kind] < 100) {
                c.tell("only " + seen[kind] + " of the kind " + kind + " in all runs");
            }
        }
    }

    private void makeRun(int number) {
        run = number;
        seed = number * 7919L;
        x = new PaddyTerraces();
        y = new PaperSlope();
        int kind = number % 3;
        for (int calls = 0; calls < CALLS; calls++) {
            drawCall(kind, calls);
            long got = answer(ofX);
            long want = answer(ofY);
            c.due("run " + run + ", call " + calls + ", " + call, got, want);
            c.due("run " + run + ", digest() after call " + calls + ", " + call, x.digest(), y.digest());
            countKinds(got);
            if (got != want) {
                break;
            }
        }
        c.due("run " + run + ", depth()", x.depth(), y.depth());
        deaths += y.died;
        floods += y.floods;
    }

    private void countKinds(long got) {
        if (got <= -1_000_001) {
            thrown++;
        } else if (call.startsWith("reap") && got > 0) {
            harvests++;
        } else if (call.startsWith("advise")) {
            if (got < 0) {
                leftAlone++;
            } else {
                advice++;
            }
        }
    }

    /** An exception is a number too, of a kind that no call answers. */
    private static long answer(LongSupplier made) {
        try {
            return made.getAsLong();
        } catch (RuntimeException e) {
            String name = e.getClass().getSimpleName();
            return switch (name) {
                case "IndexOutOfBoundsException" -> -1_000_001;
                case "IllegalArgumentException" -> -1_000_002;
                case "IllegalStateException" -> -1_000_003;
                default -> throw e;
            };
        }
    }

    /** 0 to bound - 1. */
    private int below(int bound) {
        seed = seed * 6364136223846793005L + 1442695040888963407L;
        return (int) ((seed >>> 33) % bound);
    }

    /** Mostly least to most; now and then what lies just outside, or far. */
    private int near(int least, int most) {
        switch (below(60)) {
            case 0: return least - 1;
            case 1: return most + 1;
            case 2: return below(2) == 0 ? Integer.MIN_VALUE : Integer.MAX_VALUE;
            case 3: return least;
            case 4: return most;
            default: return least + below(most - least + 1);
        }
    }

    private void set(String name, LongSupplier program, LongSupplier paper) {
        call = name;
        ofX = program;
        ofY = paper;
    }

    /** A run begins with a new slope and its weather: dry, good for rice, or wet, by its kind. */
    private void drawCall(int kind, int calls) {
        if (calls == 0 || below(300) == 0) {
            lay();
        } else if (calls <= 30) {
            setDay(kind, calls - 1);
        } else {
            drawLaterCall(kind, below(100));
        }
    }

    private void drawLaterCall(int kind, int lot) {
        int t = near(0, y.h - 1);
        int f = near(0, y.w - 1);
        if (lot < 4) {
            setDay(kind, near(0, 29));
        } else if (lot < 10) {
            int bank = near(20, 120);
            int seepage = near(0, 9);
            set("setField(" + t + ", " + f + ", " + bank + ", " + seepage + ")",
                () -> x.setField(t, f, bank, seepage), () -> y.setField(t, f, bank, seepage));
        } else if (lot < 24) {
            int stone = kind == 1 ? near(5, 20) : near(0, 60);
            set("moveStone(" + t + ", " + f + ", " + stone + ")",
                () -> x.moveStone(t, f, stone), () -> y.moveStone(t, f, stone));
        } else if (lot < 29) {
            int side = near(-1, 1);
            set("turn(" + t + ", " + f + ", " + side + ")", () -> x.turn(t, f, side), () -> y.turn(t, f, side));
        } else if (lot < 33) {
            int share = near(0, 9);
            set("setShare(" + f + ", " + share + ")", () -> x.setShare(f, share), () -> y.setShare(f, share));
        } else if (lot < 55) {
            int age = near(0, 20);
            set("plant(" + t + ", " + f + ", " + age + ")", () -> x.plant(t, f, age), () -> y.plant(t, f, age));
        } else if (lot < 70) {
            set("reap(" + t + ", " + f + ")", () -> x.reap(t, f), () -> y.reap(t, f));
        } else if (lot < 85) {
            int days = below(8) == 0 ? near(1, 60) : near(1, 4);
            set("pass(" + days + ")", () -> x.pass(days), () -> y.pass(days));
        } else {
            drawLook(t, f, lot);
        }
    }

    private void drawLook(int t, int f, int lot) {
        if (lot < 87) {
            int what = near(0, 11);
            set("field(" + t + ", " + f + ", " + what + ")", () -> x.field(t, f, what), () -> y.field(t, f, what));
        } else if (lot < 88) {
            int what = near(0, 8);
            set("count(" + what + ")", () -> x.count(what), () -> y.count(what));
        } else if (lot < 89) {
            int date = near(0, 29);
            int what = near(0, 2);
            set("weather(" + date + ", " + what + ")", () -> x.weather(date, what), () -> y.weather(date, what));
        } else if (lot < 96) {
            int days = near(1, 20);
            int what = near(0, 3);
            set("foresee(" + days + ", " + what + ")", () -> x.foresee(days, what), () -> y.foresee(days, what));
        } else {
            int days = near(1, 10);
            int what = near(0, 2);
            set("advise(" + days + ", " + what + ")", () -> x.advise(days, what), () -> y.advise(days, what));
        }
    }

    private void lay() {
        int newH = near(2, run % 5 == 0 ? 8 : 4);
        int newW = near(2, run % 5 == 0 ? 8 : 4);
        set("lay(" + newH + ", " + newW + ")", () -> x.lay(newH, newW), () -> y.lay(newH, newW));
    }

    private void setDay(int kind, int date) {
        int rain = kind == 0 ? 0 : kind == 1 ? below(8) : near(0, 60);
        int spring = kind == 2 ? near(0, 400) : near(20, 60);
        int draught = kind == 0 ? near(0, 20) : near(0, 4);
        set("setDay(" + date + ", " + rain + ", " + spring + ", " + draught + ")",
            () -> x.setDay(date, rain, spring, draught), () -> y.setDay(date, rain, spring, draught));
    }
}
