import java.util.function.ToIntFunction;

/**
 * A second reckoning of the document, for LongRunsTest: written apart from the program, in another form (a field is
 * an object, what is looked ahead at is a whole copy), so that a slip in one of them shows as a difference.
 */
final class PaperSlope {
    static final class Plot {
        int depth;
        int bank = 60;
        int seepage = 2;
        int stone = 30;
        int side;
        Crop crop;
        int out;
        int spilled;

        Plot copy() {
            Plot p = new Plot();
            p.depth = depth;
            p.bank = bank;
            p.seepage = seepage;
            p.stone = stone;
            p.side = side;
            p.crop = crop == null ? null : crop.copy();
            p.out = out;
            p.spilled = spilled;
            return p;
        }
    }

    static final class Crop {
        int age;
        int hardness;
        int drowned;
        int dry;

        Crop copy() {
            Crop c = new Crop();
            c.age = age;
            c.hardness = hardness;
            c.drowned = drowned;
            c.dry = dry;
            return c;
        }
    }

    int h;
    int w;
    int day;
    int brook;
    int reaped;
    int died;
    int moved;
    int[] shares;
    Plot[][] plots;
    int[][] calendar = new int[30][];
    int floods;

    PaperSlope() {
        for (int day = 0; day < 30; day++) {
            calendar[day] = new int[] {0, 60, 3};
        }
        layPlots(4, 4);
    }

    private void layPlots(int newH, int newW) {
        h = newH;
        w = newW;
        day = brook = reaped = died = moved = 0;
        shares = new int[w];
        plots = new Plot[h][w];
        for (int f = 0; f < w; f++) {
            shares[f] = 1;
            for (int t = 0; t < h; t++) {
                plots[t][f] = new Plot();
            }
        }
    }

    private PaperSlope copy() {
        PaperSlope s = new PaperSlope();
        s.layPlots(h, w);
        s.day = day;
        s.brook = brook;
        s.shares = shares;
        s.calendar = calendar;
        for (int t = 0; t < h; t++) {
            for (int f = 0; f < w; f++) {
                s.plots[t][f] = plots[t][f].copy();
            }
        }
        return s;
    }

    private Plot plot(int t, int f) {
        if (t < 0 || f < 0 || t >= h || f >= w) {
            throw new IndexOutOfBoundsException();
        }
        return plots[t][f];
    }

    private static void argument(boolean good) {
        if (!good) {
            throw new IllegalArgumentException();
        }
    }

    private static void index(boolean good) {
        if (!good) {
            throw new IndexOutOfBoundsException();
        }
    }

    private static void state(boolean good) {
        if (!good) {
            throw new IllegalStateException();
        }
    }

    int lay(int newH, int newW) {
        argument(2 <= newH && newH <= 8 && 2 <= newW && newW <= 8);
        layPlots(newH, newW);
        return newH * newW;
    }

    int setField(int t, int f, int bank, int seepage) {
        Plot p = plot(t, f);
        argument(20 <= bank && bank <= 120);
        argument(0 <= seepage && seepage <= 9);
        int before = p.bank;
        p.bank = bank;
        p.seepage = seepage;
        if (p.stone > bank) {
            p.stone = bank;
        }
        return before;
    }

    int moveStone(int t, int f, int stone) {
        Plot p = plot(t, f);
        argument(0 <= stone && stone <= p.bank);
        int by = stone - p.stone;
        moved += by < 0 ? -by : by;
        p.stone += by;
        return by;
    }

    int turn(int t, int f, int side) {
        Plot p = plot(t, f);
        argument(side == -1 || side == 0 || side == 1);
        int before = p.side;
        p.side = side;
        return before;
    }

    int setShare(int f, int share) {
        index(0 <= f && f < w);
        argument(0 <= share && share <= 9);
        int before = shares[f];
        shares[f] = share;
        return before;
    }

    int setDay(int date, int rain, int spring, int draught) {
        index(0 <= date && date < 30);
        argument(0 <= rain && rain <= 60);
        argument(0 <= spring && spring <= 400);
        argument(0 <= draught && draught <= 20);
        int before = calendar[date][1];
        calendar[date] = new int[] {rain, spring, draught};
        return before;
    }

    int plant(int t, int f, int age) {
        Plot p = plot(t, f);
        argument(0 <= age && age <= 20);
        state(p.crop == null && p.depth <= 40);
        p.crop = new Crop();
        p.crop.age = age;
        return count(3);
    }

    int reap(int t, int f) {
        Plot p = plot(t, f);
        state(p.crop != null && p.crop.age >= 40);
        int gain = p.crop.age * p.crop.hardness / 100;
        if (p.depth == 0) {
            gain = gain + gain / 2;
        }
        p.crop = null;
        reaped += gain;
        return gain;
    }

    int pass(int days) {
        argument(1 <= days && days <= 60);
        state(day + days <= 2000);
        for (int i = 1; i <= days; i++) {
            oneDay();
        }
        return count(3);
    }

    private void oneDay() {
        day++;
        int[] told = calendar[(day - 1) % 30];
        int sum = 0;
        for (int share : shares) {
            sum += share;
        }
        for (int f = 0; f < w; f++) {
            for (int t = 0; t < h; t++) {
                plots[t][f].depth += told[0];
            }
            if (sum != 0) {
                plots[0][f].depth += told[1] * shares[f] / sum;
            }
        }
        for (int t = 0; t < h; t++) {
            for (int f = 0; f < w; f++) {
                flow(t, f);
            }
        }
        for (Plot[] terrace : plots) {
            for (Plot p : terrace) {
                lose(p, told[2]);
                grow(p);
            }
        }
    }

    private void flow(int t, int f) {
        Plot p = plots[t][f];
        p.out = 0;
        if (p.depth > p.stone) {
            p.out = p.depth - p.stone;
            if (p.out > 40) {
                p.out = 40;
            }
        }
        p.depth -= p.out;
        int to = f + p.side;
        if (t == h - 1 || to < 0 || to >= w) {
            brook += p.out;
        } else {
            plots[t + 1][to].depth += p.out;
        }
        p.spilled = 0;
        if (p.depth > p.bank) {
            p.spilled = p.depth - p.bank;
            p.depth = p.bank;
            int half = p.spilled / 2;
            if (f == 0) {
                brook += half;
            } else {
                plots[t][f - 1].depth += half;
            }
            if (f == w - 1) {
                brook += p.spilled - half;
            } else {
                plots[t][f + 1].depth += p.spilled - half;
            }
        }
    }

    private void lose(Plot p, int draught) {
        int loss = p.seepage + draught;
        if (loss > p.depth) {
            loss = p.depth;
        }
        p.depth -= loss;
        if (p.depth > 200) {
            brook += p.depth - 200;
            p.depth = 200;
            floods++;
        }
    }

    private void grow(Plot p) {
        Crop crop = p.crop;
        if (crop == null) {
            return;
        }
        crop.age++;
        int height = 5 + crop.age * 2 / 3;
        if (height > 45) {
            height = 45;
        }
        if (p.depth > height) {
            crop.drowned++;
            crop.dry = 0;
            crop.hardness -= 3;
        } else if (p.depth == 0) {
            crop.dry++;
            crop.drowned = 0;
            crop.hardness -= 3;
        } else {
            crop.drowned = 0;
            crop.dry = 0;
            crop.hardness += p.depth >= 5 && p.depth <= 25 ? 2 : 1;
        }
        if (crop.hardness < 0) {
            crop.hardness = 0;
        }
        if (crop.hardness > 100) {
            crop.hardness = 100;
        }
        if (crop.drowned == 4 || crop.dry == 5) {
            p.crop = null;
            died++;
        }
    }

    int field(int t, int f, int what) {
        Plot p = plot(t, f);
        index(0 <= what && what <= 11);
        Crop crop = p.crop == null ? new Crop() : p.crop;
        int has = p.crop == null ? 0 : 1;
        int[] all = {p.depth, p.bank, p.seepage, p.stone, p.side, has, crop.age, crop.hardness, crop.drowned,
            crop.dry, p.out, p.spilled};
        return all[what];
    }

    private int sum(ToIntFunction<Plot> of) {
        int sum = 0;
        for (Plot[] terrace : plots) {
            for (Plot p : terrace) {
                sum += of.applyAsInt(p);
            }
        }
        return sum;
    }

    int count(int what) {
        index(0 <= what && what <= 8);
        int crops = sum(p -> p.crop == null ? 0 : 1);
        int[] all = {h, w, day, crops, sum(p -> p.depth), brook, reaped, died, moved};
        return all[what];
    }

    int weather(int date, int what) {
        index(0 <= date && date < 30);
        index(0 <= what && what < 3);
        return calendar[date][what];
    }

    int foresee(int days, int what) {
        argument(1 <= days && days <= 20);
        index(0 <= what && what <= 3);
        state(day + days <= 2000);
        PaperSlope then = copy();
        then.pass(days);
        int hardness = then.sum(p -> p.crop == null ? 0 : p.crop.hardness);
        int[] all = {then.count(3), hardness, then.brook - brook, then.count(4)};
        return all[what];
    }

    int advise(int days, int what) {
        argument(1 <= days && days <= 10);
        index(0 <= what && what <= 2);
        state(day + days <= 2000);
        int[] best = {-1, -1, -1};
        int mostCrops = foresee(days, 0);
        int mostHardness = foresee(days, 1);
        for (int t = 0; t < h; t++) {
            for (int f = 0; f < w; f++) {
                for (int tens = 0; tens * 10 <= plots[t][f].bank; tens++) {
                    PaperSlope then = copy();
                    then.plots[t][f].stone = tens * 10;
                    int crops = then.pass(days);
                    int hardness = then.sum(p -> p.crop == null ? 0 : p.crop.hardness);
                    if (crops > mostCrops || crops == mostCrops && hardness > mostHardness) {
                        mostCrops = crops;
                        mostHardness = hardness;
                        best = new int[] {t, f, tens * 10};
                    }
                }
            }
        }
        return best[what];
    }

    double depth() {
        return (double) count(4) / (h * w);
    }

    long digest() {
        long d = 443;
        for (int what = 0; what <= 8; what++) {
            d = d * 31 + count(what);
        }
        for (int share : shares) {
            d = d * 31 + share;
        }
        for (int t = 0; t < h; t++) {
            for (int f = 0; f < w; f++) {
                for (int what = 0; what <= 11; what++) {
                    d = d * 31 + field(t, f, what);
                }
            }
        }
        for (int[] told : calendar) {
            for (int number : told) {
                d = d * 31 + number;
            }
        }
        return d;
    }
}
