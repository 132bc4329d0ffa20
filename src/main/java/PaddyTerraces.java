import java.util.Arrays;

/** Paddy terraces on a slope, fed from above. */
public final class PaddyTerraces {
    private static final int LEAST_SIZE = 2;
    private static final int MOST_SIZE = 8;
    private static final int FIRST_SIZE = 4;
    private static final int MOST_FIELDS = 64;

    private static final int LEAST_BANK = 20;
    private static final int MOST_BANK = 120;
    private static final int MOST_SEEPAGE = 9;
    private static final int MOST_SHARE = 9;
    private static final int MOST_DEPTH = 200;
    private static final int REACH = 40;

    private static final int CALENDAR_DAYS = 30;
    private static final int MOST_RAIN = 60;
    private static final int MOST_SPRING = 400;
    private static final int MOST_DRAUGHT = 20;
    private static final int LAST_DAY = 2000;
    private static final int MOST_DAYS_PASSED = 60;
    private static final int MOST_DAYS_FORESEEN = 20;
    private static final int MOST_DAYS_ADVISED = 10;

    private static final int OLDEST_PLANTS = 20;
    private static final int DEEPEST_PLANTING = 40;
    private static final int RIPE_AGE = 40;
    private static final int MOST_HARDNESS = 100;
    private static final int MOST_HEIGHT = 45;
    private static final int DEADLY_DAYS_DROWNED = 4;
    private static final int DEADLY_DAYS_DRY = 5;

    private static final int STONE_STEP = 10;
    private static final int NO_MOVE = -1;

    private static final int FIELD_NUMBERS = 12;
    private static final int COUNT_NUMBERS = 9;
    private static final int WEATHER_NUMBERS = 3;
    private static final int FORESEEN_NUMBERS = 4;
    private static final int ADVISED_NUMBERS = 3;

    private final Calendar calendar;
    private final Slope slope;
    /** What lies ahead is tried out here, so that no call has to make rows of its own. */
    private final Slope trial;
    private final Move best;
    private int reaped;
    private int moved;

    public PaddyTerraces() {
        calendar = new Calendar();
        slope = new Slope(FIRST_SIZE, FIRST_SIZE);
        trial = new Slope(FIRST_SIZE, FIRST_SIZE);
        best = new Move();
    }

    public int lay(int h, int w) throws IllegalArgumentException {
        if (!isWithin(h, LEAST_SIZE, MOST_SIZE) || !isWithin(w, LEAST_SIZE, MOST_SIZE)) {
            throw new IllegalArgumentException("h or w is not 2 to 8");
        }
        slope.startAnew(h, w);
        reaped = 0;
        moved = 0;
        return slope.cells();
    }

    public int setField(int t, int f, int bank, int seepage)
            throws IndexOutOfBoundsException, IllegalArgumentException {
        if (!slope.hasField(t, f)) {
            throw new IndexOutOfBoundsException("there is no such field");
        }
        if (!isWithin(bank, LEAST_BANK, MOST_BANK) || !isWithin(seepage, 0, MOST_SEEPAGE)) {
            throw new IllegalArgumentException("bank is not 20 to 120, or seepage is not 0 to 9");
        }
        int cell = slope.cellOf(t, f);
        int before = slope.bank[cell];
        slope.bank[cell] = bank;
        slope.seepage[cell] = seepage;
        slope.stone[cell] = Math.min(slope.stone[cell], bank);
        return before;
    }

    public int moveStone(int t, int f, int stone) throws IndexOutOfBoundsException, IllegalArgumentException {
        if (!slope.hasField(t, f)) {
            throw new IndexOutOfBoundsException("there is no such field");
        }
        int cell = slope.cellOf(t, f);
        if (!isWithin(stone, 0, slope.bank[cell])) {
            throw new IllegalArgumentException("stone is not 0 to the bank");
        }
        int higher = stone - slope.stone[cell];
        slope.stone[cell] = stone;
        moved += Math.abs(higher);
        return higher;
    }

    public int turn(int t, int f, int side) throws IndexOutOfBoundsException, IllegalArgumentException {
        if (!slope.hasField(t, f)) {
            throw new IndexOutOfBoundsException("there is no such field");
        }
        if (!isWithin(side, -1, 1)) {
            throw new IllegalArgumentException("side is not -1 to 1");
        }
        int cell = slope.cellOf(t, f);
        int before = slope.side[cell];
        slope.side[cell] = side;
        return before;
    }

    public int setShare(int f, int share) throws IndexOutOfBoundsException, IllegalArgumentException {
        if (!slope.hasField(0, f)) {
            throw new IndexOutOfBoundsException("there is no such column");
        }
        if (!isWithin(share, 0, MOST_SHARE)) {
            throw new IllegalArgumentException("share is not 0 to 9");
        }
        int before = slope.share[f];
        slope.share[f] = share;
        return before;
    }

    public int setDay(int day, int rain, int spring, int draught)
            throws IndexOutOfBoundsException, IllegalArgumentException {
        if (!isWithin(day, 0, CALENDAR_DAYS - 1)) {
            throw new IndexOutOfBoundsException("day is not 0 to 29");
        }
        if (!isWithin(rain, 0, MOST_RAIN) || !isWithin(spring, 0, MOST_SPRING)
                || !isWithin(draught, 0, MOST_DRAUGHT)) {
            throw new IllegalArgumentException("rain is not 0 to 60, spring not 0 to 400, or draught not 0 to 20");
        }
        int before = calendar.spring[day];
        calendar.rain[day] = rain;
        calendar.spring[day] = spring;
        calendar.draught[day] = draught;
        return before;
    }

    public int plant(int t, int f, int age)
            throws IndexOutOfBoundsException, IllegalArgumentException, IllegalStateException {
        if (!slope.hasField(t, f)) {
            throw new IndexOutOfBoundsException("there is no such field");
        }
        if (!isWithin(age, 0, OLDEST_PLANTS)) {
            throw new IllegalArgumentException("age is not 0 to 20");
        }
        int cell = slope.cellOf(t, f);
        if (slope.crop[cell] != 0 || slope.depth[cell] > DEEPEST_PLANTING) {
            throw new IllegalStateException("the field is not fallow, or its depth is greater than 40");
        }
        slope.crop[cell] = 1;
        slope.age[cell] = age;
        return slope.crops();
    }

    public int reap(int t, int f) throws IndexOutOfBoundsException, IllegalStateException {
        if (!slope.hasField(t, f)) {
            throw new IndexOutOfBoundsException("there is no such field");
        }
        int cell = slope.cellOf(t, f);
        if (slope.crop[cell] == 0 || slope.age[cell] < RIPE_AGE) {
            throw new IllegalStateException("the field is fallow, or the age of the crop is less than 40");
        }
        int harvest = slope.age[cell] * slope.hardness[cell] / 100;
        if (slope.depth[cell] == 0) {
            harvest += harvest / 2;
        }
        slope.clearCrop(cell);
        reaped += harvest;
        return harvest;
    }

    public int pass(int days) throws IllegalArgumentException, IllegalStateException {
        if (!isWithin(days, 1, MOST_DAYS_PASSED)) {
            throw new IllegalArgumentException("days is not 1 to 60");
        }
        if (slope.day + days > LAST_DAY) {
            throw new IllegalStateException("the day would be greater than 2000");
        }
        slope.letDaysGoBy(days, calendar);
        return slope.crops();
    }

    public int field(int t, int f, int what) throws IndexOutOfBoundsException {
        if (!slope.hasField(t, f) || !isWithin(what, 0, FIELD_NUMBERS - 1)) {
            throw new IndexOutOfBoundsException("there is no such field, or what is not 0 to 11");
        }
        return slope.fieldNumber(slope.cellOf(t, f), what);
    }

    public int count(int what) throws IndexOutOfBoundsException {
        if (!isWithin(what, 0, COUNT_NUMBERS - 1)) {
            throw new IndexOutOfBoundsException("what is not 0 to 8");
        }
        return countNumber(what);
    }

    public int weather(int day, int what) throws IndexOutOfBoundsException {
        if (!isWithin(day, 0, CALENDAR_DAYS - 1) || !isWithin(what, 0, WEATHER_NUMBERS - 1)) {
            throw new IndexOutOfBoundsException("day is not 0 to 29, or what is not 0 to 2");
        }
        return calendar.dayNumber(day, what);
    }

    public int foresee(int days, int what)
            throws IllegalArgumentException, IndexOutOfBoundsException, IllegalStateException {
        if (!isWithin(days, 1, MOST_DAYS_FORESEEN)) {
            throw new IllegalArgumentException("days is not 1 to 20");
        }
        if (!isWithin(what, 0, FORESEEN_NUMBERS - 1)) {
            throw new IndexOutOfBoundsException("what is not 0 to 3");
        }
        if (slope.day + days > LAST_DAY) {
            throw new IllegalStateException("the day would be greater than 2000");
        }
        trial.copyFrom(slope);
        trial.letDaysGoBy(days, calendar);
        return foreseenNumber(what);
    }

    public int advise(int days, int what)
            throws IllegalArgumentException, IndexOutOfBoundsException, IllegalStateException {
        if (!isWithin(days, 1, MOST_DAYS_ADVISED)) {
            throw new IllegalArgumentException("days is not 1 to 10");
        }
        if (!isWithin(what, 0, ADVISED_NUMBERS - 1)) {
            throw new IndexOutOfBoundsException("what is not 0 to 2");
        }
        if (slope.day + days > LAST_DAY) {
            throw new IllegalStateException("the day would be greater than 2000");
        }
        findBestMove(days);
        return best.moveNumber(what);
    }

    public double depth() {
        int cells = slope.cells();
        return cells < 1 ? 0.0 : (double) slope.allDepths() / cells;
    }

    public long digest() {
        long d = 443;
        for (int what = 0; what < COUNT_NUMBERS; what++) {
            d = d * 31 + countNumber(what);
        }
        for (int f = 0; f < slope.w; f++) {
            d = d * 31 + slope.share[f];
        }
        for (int cell = 0; cell < slope.cells(); cell++) {
            for (int what = 0; what < FIELD_NUMBERS; what++) {
                d = d * 31 + slope.fieldNumber(cell, what);
            }
        }
        for (int day = 0; day < CALENDAR_DAYS; day++) {
            for (int what = 0; what < WEATHER_NUMBERS; what++) {
                d = d * 31 + calendar.dayNumber(day, what);
            }
        }
        return d;
    }

    private static boolean isWithin(int number, int least, int most) {
        return number >= least && number <= most;
    }

    private int countNumber(int what) {
        switch (what) {
            case 0: return slope.h;
            case 1: return slope.w;
            case 2: return slope.day;
            case 3: return slope.crops();
            case 4: return slope.allDepths();
            case 5: return slope.brook;
            case 6: return reaped;
            case 7: return slope.died;
            default: return moved;
        }
    }

    private int foreseenNumber(int what) {
        switch (what) {
            case 0: return trial.crops();
            case 1: return trial.allHardness();
            case 2: return trial.brook - slope.brook;
            default: return trial.allDepths();
        }
    }

    private void findBestMove(int days) {
        trial.copyFrom(slope);
        trial.letDaysGoBy(days, calendar);
        best.becomeLeaving(trial.crops(), trial.allHardness());
        for (int t = 0; t < slope.h; t++) {
            for (int f = 0; f < slope.w; f++) {
                int cell = slope.cellOf(t, f);
                for (int height = 0; height <= slope.bank[cell]; height += STONE_STEP) {
                    trial.copyFrom(slope);
                    trial.stone[cell] = height;
                    trial.letDaysGoBy(days, calendar);
                    best.becomeIfBetter(t, f, height, trial.crops(), trial.allHardness());
                }
            }
        }
    }

    /** The weather that is told ahead. */
    private static final class Calendar {
        final int[] rain = new int[CALENDAR_DAYS];
        final int[] spring = new int[CALENDAR_DAYS];
        final int[] draught = new int[CALENDAR_DAYS];

        Calendar() {
            Arrays.fill(spring, 60);
            Arrays.fill(draught, 3);
        }

        int dayNumber(int day, int what) {
            switch (what) {
                case 0: return rain[day];
                case 1: return spring[day];
                default: return draught[day];
            }
        }
    }

    /** The best move of a stone so far, and what was foreseen of it. */
    private static final class Move {
        int terrace;
        int column;
        int height;
        int crops;
        int hardness;

        void becomeLeaving(int cropsThen, int hardnessThen) {
            become(NO_MOVE, NO_MOVE, NO_MOVE, cropsThen, hardnessThen);
        }

        /** Of equal ones the earlier stays: leaving all as it is, then what was looked at first. */
        void becomeIfBetter(int t, int f, int stone, int cropsThen, int hardnessThen) {
            if (cropsThen > crops || cropsThen == crops && hardnessThen > hardness) {
                become(t, f, stone, cropsThen, hardnessThen);
            }
        }

        void become(int t, int f, int stone, int cropsThen, int hardnessThen) {
            terrace = t;
            column = f;
            height = stone;
            crops = cropsThen;
            hardness = hardnessThen;
        }

        int moveNumber(int what) {
            switch (what) {
                case 0: return terrace;
                case 1: return column;
                default: return height;
            }
        }
    }

    /**
     * All that days change. The rows are as long as the largest slope needs, so that they serve every slope;
     * h and w are 2 to 8 always, since whoever lays a slope looks at them before.
     */
    private static final class Slope {
        int h;
        int w;
        int day;
        int brook;
        int died;
        final int[] share = new int[MOST_SIZE];
        final int[] depth = new int[MOST_FIELDS];
        final int[] bank = new int[MOST_FIELDS];
        final int[] seepage = new int[MOST_FIELDS];
        final int[] stone = new int[MOST_FIELDS];
        final int[] side = new int[MOST_FIELDS];
        final int[] crop = new int[MOST_FIELDS];
        final int[] age = new int[MOST_FIELDS];
        final int[] hardness = new int[MOST_FIELDS];
        final int[] drowned = new int[MOST_FIELDS];
        final int[] dry = new int[MOST_FIELDS];
        final int[] wentOut = new int[MOST_FIELDS];
        final int[] spilled = new int[MOST_FIELDS];

        Slope(int h, int w) {
            startAnew(h, w);
        }

        void startAnew(int newH, int newW) {
            h = newH;
            w = newW;
            day = 0;
            brook = 0;
            died = 0;
            Arrays.fill(share, 1);
            Arrays.fill(depth, 0);
            Arrays.fill(bank, 60);
            Arrays.fill(seepage, 2);
            Arrays.fill(stone, 30);
            Arrays.fill(side, 0);
            Arrays.fill(wentOut, 0);
            Arrays.fill(spilled, 0);
            for (int cell = 0; cell < MOST_FIELDS; cell++) {
                clearCrop(cell);
            }
        }

        void copyFrom(Slope other) {
            h = other.h;
            w = other.w;
            day = other.day;
            brook = other.brook;
            died = other.died;
            System.arraycopy(other.share, 0, share, 0, MOST_SIZE);
            copyRow(other.depth, depth);
            copyRow(other.bank, bank);
            copyRow(other.seepage, seepage);
            copyRow(other.stone, stone);
            copyRow(other.side, side);
            copyRow(other.crop, crop);
            copyRow(other.age, age);
            copyRow(other.hardness, hardness);
            copyRow(other.drowned, drowned);
            copyRow(other.dry, dry);
            copyRow(other.wentOut, wentOut);
            copyRow(other.spilled, spilled);
        }

        private static void copyRow(int[] from, int[] to) {
            System.arraycopy(from, 0, to, 0, MOST_FIELDS);
        }

        int cells() {
            return h * w;
        }

        boolean hasField(int t, int f) {
            return t >= 0 && t < h && f >= 0 && f < w;
        }

        int cellOf(int t, int f) {
            return t * w + f;
        }

        int fieldNumber(int cell, int what) {
            switch (what) {
                case 0: return depth[cell];
                case 1: return bank[cell];
                case 2: return seepage[cell];
                case 3: return stone[cell];
                case 4: return side[cell];
                case 5: return crop[cell];
                case 6: return age[cell];
                case 7: return hardness[cell];
                case 8: return drowned[cell];
                case 9: return dry[cell];
                case 10: return wentOut[cell];
                default: return spilled[cell];
            }
        }

        int crops() {
            return sumOf(crop);
        }

        /** A fallow field has the hardness 0, so that it adds nothing here. */
        int allHardness() {
            return sumOf(hardness);
        }

        int allDepths() {
            return sumOf(depth);
        }

        private int sumOf(int[] row) {
            int sum = 0;
            for (int cell = 0; cell < cells(); cell++) {
                sum += row[cell];
            }
            return sum;
        }

        void clearCrop(int cell) {
            crop[cell] = 0;
            age[cell] = 0;
            hardness[cell] = 0;
            drowned[cell] = 0;
            dry[cell] = 0;
        }

        void letDaysGoBy(int days, Calendar calendar) {
            for (int gone = 0; gone < days; gone++) {
                // The day that begins is day + 1, and the calendar's number for it is one less.
                int date = day % CALENDAR_DAYS;
                day++;
                takeRain(calendar.rain[date]);
                takeSpring(calendar.spring[date]);
                letWaterFlow();
                loseWater(calendar.draught[date]);
                growRice();
            }
        }

        private void takeRain(int rain) {
            for (int cell = 0; cell < cells(); cell++) {
                depth[cell] += rain;
            }
        }

        private void takeSpring(int spring) {
            int allShares = 0;
            for (int f = 0; f < w; f++) {
                allShares += share[f];
            }
            if (allShares == 0) {
                return;
            }
            for (int f = 0; f < w; f++) {
                depth[f] += spring * share[f] / allShares;
            }
        }

        private void letWaterFlow() {
            for (int t = 0; t < h; t++) {
                for (int f = 0; f < w; f++) {
                    letFieldFlow(t, f);
                }
            }
        }

        private void letFieldFlow(int t, int f) {
            int cell = cellOf(t, f);
            int out = Math.min(Math.max(depth[cell] - stone[cell], 0), REACH);
            wentOut[cell] = out;
            depth[cell] -= out;
            bringWater(t + 1, f + side[cell], out);

            int above = Math.max(depth[cell] - bank[cell], 0);
            spilled[cell] = above;
            depth[cell] -= above;
            bringWater(t, f - 1, above / 2);
            bringWater(t, f + 1, above - above / 2);
        }

        private void bringWater(int t, int f, int water) {
            if (hasField(t, f)) {
                depth[cellOf(t, f)] += water;
            } else {
                brook += water;
            }
        }

        private void loseWater(int draught) {
            for (int cell = 0; cell < cells(); cell++) {
                int left = Math.max(depth[cell] - seepage[cell] - draught, 0);
                depth[cell] = Math.min(left, MOST_DEPTH);
                brook += left - depth[cell];
            }
        }

        private void growRice() {
            for (int cell = 0; cell < cells(); cell++) {
                if (crop[cell] != 0) {
                    growCrop(cell);
                }
            }
        }

        private void growCrop(int cell) {
            age[cell]++;
            int height = Math.min(5 + age[cell] * 2 / 3, MOST_HEIGHT);
            drowned[cell] = depth[cell] > height ? drowned[cell] + 1 : 0;
            dry[cell] = depth[cell] == 0 ? dry[cell] + 1 : 0;
            if (drowned[cell] >= DEADLY_DAYS_DROWNED || dry[cell] >= DEADLY_DAYS_DRY) {
                clearCrop(cell);
                died++;
            } else {
                int harder = hardness[cell] + hardening(cell);
                hardness[cell] = Math.min(Math.max(harder, 0), MOST_HARDNESS);
            }
        }

        private int hardening(int cell) {
            if (drowned[cell] > 0 || dry[cell] > 0) {
                return -3;
            }
            return isWithin(depth[cell], 5, 25) ? 2 : 1;
        }
    }
}
