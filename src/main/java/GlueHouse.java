import java.util.Arrays;

/**
 * Glued laps and what is known of them. The words in capitals are those of the document.
 * Every row that a call needs is made once and used again, so that a long run of calls makes
 * next to no objects: only the first read into a LAP makes one.
 */
public final class GlueHouse {
    public static final int NONE = -6, UNKNOWN = -1, OUTSIDE = -2, STATE = -3, FULL = -4, NO = -5;
    public static final long LOST = -1000000000000000000L;

    private static final int LAPS = 6;
    private static final int SPOTS = 5;
    private static final int MOST_GLUE = 5;
    private static final int MOST_WORK = 1000;
    private static final int MOST_PULL = 100;
    private static final int MOST_ROUNDS = 1000;
    private static final int RUNS = 100;
    private static final int NOBODY = -1;

    private static final int CELLS = 10;
    private static final int WHOLE = 1000;
    private static final int MOST_HOURS = 1000;
    private static final int TENS = 5;
    private static final int MOST_RATE = 100;

    private static final int HUNDRED = 100;
    private static final int MOST_LOAD = 10000;

    private static final int LASTS = 0, SHARE = 1, AIR = 2, WARMTH = 3, CLAMPS = 4, LINE = 5, STEP = 6, MARGIN = 7;
    private static final int[] LEAST_SETTINGS = {1, 0, 0, 0, 1, 0, 0, 0};
    private static final int[] MOST_SETTINGS = {1000000, 50, 1000, 49, 3, 10000, 3, 100};
    private static final int[] FIRST_SETTINGS = {100000, 20, 0, 20, 1, 1000, 3, 20};
    private static final int TOLD_SETTINGS = 10;

    private final Signs signs;
    private final Lap[] laps;
    private final Breaks breaks;
    private final Fraction fraction;
    private final int[] settings;
    private final int[] rates;
    private final Joints joints;
    private final Strips tested;
    private final Knocks knocks;
    private final Choices choices;

    public GlueHouse() {
        signs = new Signs();
        laps = new Lap[LAPS];
        breaks = new Breaks();
        fraction = new Fraction();
        settings = FIRST_SETTINGS.clone();
        rates = new int[TENS];
        joints = new Joints();
        tested = new Strips();
        knocks = new Knocks();
        choices = new Choices();
    }

    // ---- 1 laps

    public int say(int sign) {
        if (!within(sign, Signs.LEAST, Signs.MOST)) {
            return OUTSIDE;
        }
        return signs.append(sign);
    }

    public int wipe() {
        return signs.clear();
    }

    public int fault() {
        return signs.faultPlace();
    }

    public int read(int lap) {
        if (!within(lap, 0, LAPS - 1)) {
            return UNKNOWN;
        }
        if (signs.faultPlace() != NONE) {
            return NO;
        }
        Lap here = laps[lap];
        if (here == null) {
            here = new Lap();
            laps[lap] = here;
        }
        here.readFrom(signs);
        signs.clear();
        return here.spots;
    }

    public int spot(int lap, int i, int what) {
        Lap here = lapAt(lap);
        if (here == null || !here.hasSpot(i)) {
            return UNKNOWN;
        }
        switch (what) {
            case 0:
                return here.glue[i];
            case 1:
                return here.isLast(i) ? NONE : here.upper[i];
            case 2:
                return here.isLast(i) ? NONE : here.under[i];
            case 3:
                return here.work[i];
            case 4:
                return here.wear[i];
            default:
                return OUTSIDE;
        }
    }

    public int glue(int lap, int i, int g) {
        Lap here = lapAt(lap);
        if (here == null || !here.hasSpot(i)) {
            return UNKNOWN;
        }
        return put(here.glue, i, g, 0, MOST_GLUE);
    }

    public int work(int lap, int i, int v) {
        Lap here = lapAt(lap);
        if (here == null || !here.hasSpot(i)) {
            return UNKNOWN;
        }
        return put(here.work, i, v, 0, MOST_WORK);
    }

    public long pull(int lap, int i, int what, int part) {
        Lap here = lapAt(lap);
        if (here == null || !here.hasSpot(i)) {
            return LOST + UNKNOWN;
        }
        if (!within(what, 0, 2) || !isPart(part)) {
            return LOST + OUTSIDE;
        }
        if (here.isLoose()) {
            return LOST + STATE;
        }
        breaks.tellPull(here, i, what, fraction);
        return fraction.number(part);
    }

    public long give(int lap, int part) {
        Lap here = lapAt(lap);
        if (here == null) {
            return LOST + UNKNOWN;
        }
        if (!isPart(part)) {
            return LOST + OUTSIDE;
        }
        if (here.isLoose()) {
            return LOST + STATE;
        }
        breaks.tellGive(here, fraction);
        return fraction.number(part);
    }

    public int hardest(int lap) {
        Lap here = lapAt(lap);
        if (here == null) {
            return UNKNOWN;
        }
        return here.isLoose() ? STATE : breaks.hardestSpot(here);
    }

    // ---- 2 breaks

    public long back(int lap, int i, int p, int part) {
        Lap here = lapAt(lap);
        if (here == null || !here.hasSpot(i)) {
            return LOST + UNKNOWN;
        }
        if (!isPull(p) || !isPart(part)) {
            return LOST + OUTSIDE;
        }
        if (here.glue[i] == 0) {
            return LOST + STATE;
        }
        breaks.tellBack(here, i, p, fraction);
        return fraction.number(part);
    }

    public int spreads(int lap, int p) {
        Lap here = lapAt(lap);
        int refusal = refusalOfPull(here, p, true);
        return refusal != 0 ? refusal : breaks.spreadingSpots(here, p);
    }

    public int first(int lap) {
        Lap here = lapAt(lap);
        if (here == null) {
            return UNKNOWN;
        }
        return here.isLoose() ? STATE : breaks.leastPull(here);
    }

    public int snap(int lap, int p) {
        Lap here = lapAt(lap);
        int refusal = refusalOfPull(here, p, true);
        return refusal != 0 ? refusal : breaks.breakBy(here, p);
    }

    public int rounds(int lap, int p, int n) {
        Lap here = lapAt(lap);
        int refusal = refusalOfPull(here, p, within(n, 1, MOST_ROUNDS));
        return refusal != 0 ? refusal : breaks.wearOut(here, p, n, settings[LASTS]);
    }

    public int set(int which, int v) {
        if (!within(which, 0, settings.length - 1)) {
            return OUTSIDE;
        }
        return put(settings, which, v, LEAST_SETTINGS[which], MOST_SETTINGS[which]);
    }

    // ---- 3 damp, cure

    public int damp(int lap, int cell, int v) {
        Lap here = lapAt(lap);
        return here == null ? UNKNOWN : put(here.cells, cell, v, 0, WHOLE);
    }

    public int hours(int lap, int n) {
        Lap here = lapAt(lap);
        if (here == null) {
            return UNKNOWN;
        }
        if (!within(n, 1, MOST_HOURS)) {
            return OUTSIDE;
        }
        int ten = settings[WARMTH] / 10;
        int more = within(ten, 0, rates.length - 1) ? rates[ten] : 0;
        for (int hour = 0; hour < n; hour++) {
            here.soak(settings[SHARE], settings[AIR]);
            here.cureBy(more);
        }
        return here.cure;
    }

    public int of(int lap, int what) {
        Lap here = lapAt(lap);
        if (here == null) {
            return UNKNOWN;
        }
        if (within(what, 0, CELLS - 1)) {
            return here.cells[what];
        }
        switch (what) {
            case CELLS:
                return here.cure;
            case CELLS + 1:
                return here.spots;
            case CELLS + 2:
                return here.holding();
            default:
                return OUTSIDE;
        }
    }

    public int rate(int ten, int v) {
        return put(rates, ten, v, 0, MOST_RATE);
    }

    // ---- 4 joints

    public int joint(int joint, int hours, int needs) {
        if (!within(joint, 0, Joints.COUNT - 1)) {
            return UNKNOWN;
        }
        if (!within(hours, 0, Joints.MOST_HOURS) || !within(needs, 0, Joints.ALL)) {
            return OUTSIDE;
        }
        return joints.change(joint, hours, needs);
    }

    public int best(int i) {
        if (!joints.findBest(settings[CLAMPS])) {
            return STATE;
        }
        return i == -1 ? joints.end() : joints.inOrder(i);
    }

    public int begun(int joint) {
        if (!joints.isThere(joint)) {
            return UNKNOWN;
        }
        return joints.findBest(settings[CLAMPS]) ? joints.startOf(joint) : STATE;
    }

    // ---- 5 strips

    public int strip(int strength) {
        return within(strength, 0, MOST_LOAD) ? tested.append(strength) : OUTSIDE;
    }

    public int bar(int strip, boolean is) {
        return tested.changeBarred(strip, is);
    }

    public long strips(int what, int part) {
        if (!within(what, 0, 1) || !isPart(part)) {
            return LOST + OUTSIDE;
        }
        if (tested.kept() == 0) {
            return LOST + STATE;
        }
        if (what == 0) {
            tested.tellMean(fraction);
        } else {
            tested.tellSpread(fraction);
        }
        return fraction.number(part);
    }

    public int weak() {
        return tested.countWeak(settings[LINE]);
    }

    public long odd(int w, int part) {
        if (!within(w, 1, Strips.ODDS_OF - 1) || !isPart(part)) {
            return LOST + OUTSIDE;
        }
        if (tested.kept() == 0) {
            return LOST + STATE;
        }
        tested.tellOdds(w, settings[LINE], fraction);
        return fraction.number(part);
    }

    // ---- 6 knocks

    public int knock(int place, int sound) {
        if (!within(place, 0, Knocks.PLACES - 1)) {
            return UNKNOWN;
        }
        int before = put(knocks.heard, place, sound, Knocks.SILENT, Knocks.MOST_SOUND);
        return before == Knocks.SILENT ? NONE : before;
    }

    public int sheet(int place, int sheet) {
        if (!within(place, 0, Knocks.PLACES - 1)) {
            return UNKNOWN;
        }
        return put(knocks.sheetOf, place, sheet, 0, Knocks.SHEETS - 1);
    }

    public int table(int sheet, int gap, int sound) {
        if (!within(sheet, 0, Knocks.SHEETS - 1) || !within(gap, 0, Knocks.GAPS - 1)) {
            return OUTSIDE;
        }
        return put(knocks.soundOf, sheet * Knocks.GAPS + gap, sound, 0, Knocks.MOST_SOUND);
    }

    public int fit(int place) {
        return within(place, 0, Knocks.PLACES - 1) ? knocks.gapsThatFit(place) : UNKNOWN;
    }

    public int fits() {
        return knocks.rowsThatFit(settings[STEP]);
    }

    public int sure(int place) {
        return within(place, 0, Knocks.PLACES - 1) ? knocks.onlyGap(place, settings[STEP]) : UNKNOWN;
    }

    public int unseen(int sheet) {
        return within(sheet, 0, Knocks.SHEETS - 1) ? knocks.pairsAlike(sheet) : OUTSIDE;
    }

    // ---- 7 choices, causes

    public int choice(int kind, int price, int holds, int shows) {
        if (!within(kind, 0, Choices.KINDS - 1)) {
            return UNKNOWN;
        }
        if (!within(price, 0, Choices.MOST_PRICE) || !isLoad(holds) || !isLoad(shows)) {
            return OUTSIDE;
        }
        return choices.append(kind, price, holds, shows);
    }

    public int cheapest(int load, int kind) {
        if (!within(kind, Choices.ANY_KIND, Choices.KINDS - 1)) {
            return UNKNOWN;
        }
        return isLoad(load) ? choices.bestFor(load, kind, settings[MARGIN]) : OUTSIDE;
    }

    public int led(int lap, int base, int clean, int load, int made, int what) {
        Lap here = lapAt(lap);
        if (here == null) {
            return UNKNOWN;
        }
        if (!isLoad(base) || !within(clean, 0, HUNDRED) || !isLoad(load) || !isLoad(made) || !within(what, 0, 1)) {
            return OUTSIDE;
        }
        if (what == 0) {
            return strengthOf(base, clean, here.cure, here.greatestDamp());
        }
        return causesAlone(here, base, clean, load, made);
    }

    public int told(int what) {
        if (within(what, TOLD_SETTINGS, TOLD_SETTINGS + settings.length - 1)) {
            return settings[what - TOLD_SETTINGS];
        }
        switch (what) {
            case 0:
                return signs.count();
            case 1:
                return lapBits();
            case 2:
                return tested.count();
            case 3:
                return choices.count();
            case 4:
                return joints.bits();
            default:
                return OUTSIDE;
        }
    }

    // ---- what the calls share

    private static boolean within(int value, int least, int most) {
        return value >= least && value <= most;
    }

    private static boolean isPart(int part) {
        return within(part, 0, 1);
    }

    private static boolean isPull(int p) {
        return within(p, 1, MOST_PULL);
    }

    private static boolean isLoad(int load) {
        return within(load, 0, MOST_LOAD);
    }

    /** Puts a number into a row and answers the one before it; OUTSIDE if there is no such place or number. */
    private static int put(int[] row, int place, int value, int least, int most) {
        if (!within(place, 0, row.length - 1) || !within(value, least, most)) {
            return OUTSIDE;
        }
        int before = row[place];
        row[place] = value;
        return before;
    }

    private Lap lapAt(int lap) {
        return within(lap, 0, LAPS - 1) ? laps[lap] : null;
    }

    private int lapBits() {
        int bits = 0;
        for (int lap = 0; lap < LAPS; lap++) {
            if (laps[lap] != null) {
                bits |= 1 << lap;
            }
        }
        return bits;
    }

    /** Why a call that pulls a whole LAP is refused, or 0. */
    private static int refusalOfPull(Lap here, int p, boolean othersAreAsTold) {
        if (here == null) {
            return UNKNOWN;
        }
        if (!isPull(p) || !othersAreAsTold) {
            return OUTSIDE;
        }
        return here.isLoose() ? STATE : 0;
    }

    private static int strengthOf(int base, int clean, int cure, int damp) {
        int cleaned = base * clean / HUNDRED;
        int cured = cleaned * cure / WHOLE;
        return cured * (WHOLE - damp) / WHOLE;
    }

    private static int causesAlone(Lap here, int base, int clean, int load, int made) {
        int causes = 0;
        if (strengthOf(base, clean, WHOLE, 0) < made) {
            causes |= 1;
        }
        if (strengthOf(base, HUNDRED, here.cure, 0) < made) {
            causes |= 2;
        }
        if (strengthOf(base, HUNDRED, WHOLE, here.greatestDamp()) < made) {
            causes |= 4;
        }
        // A load within what the LAP was made for is no cause, however weak the LAP is.
        if (load > made && strengthOf(base, HUNDRED, WHOLE, 0) < load) {
            causes |= 8;
        }
        return causes;
    }

    /** A fraction in lowest terms; one object serves all calls. */
    private static final class Fraction {
        private static final int MOST_STEPS = 200;

        private long upper;
        private long lower;

        Fraction() {
            upper = 0;
            lower = 1;
        }

        /** The lower number is above 0. */
        void reduce(long newUpper, long newLower) {
            long common = commonDivisor(Math.abs(newUpper), newLower);
            if (common > 0) {
                upper = newUpper / common;
                lower = newLower / common;
            }
        }

        long number(int part) {
            return part == 0 ? upper : lower;
        }

        // Euclid's way takes fewer than 93 steps for any two longs.
        private static long commonDivisor(long one, long other) {
            long a = one;
            long b = other;
            for (int step = 0; step < MOST_STEPS && b != 0; step++) {
                long rest = a % b;
                a = b;
                b = rest;
            }
            return a;
        }
    }

    /** The signs that have been said, and where they stop being a LAP's text. */
    private static final class Signs {
        static final int LEAST = 33;
        static final int MOST = 126;
        private static final int ROOM = 40;
        private static final int PER_SPOT = 5;
        private static final int LONGEST_TEXT = (SPOTS - 1) * PER_SPOT + 1;
        private static final int MOST_WAY = 3;

        private final int[] row;
        private int count;

        Signs() {
            row = new int[ROOM];
        }

        int append(int sign) {
            if (count >= row.length) {
                return FULL;
            }
            row[count] = sign;
            count++;
            return count;
        }

        int clear() {
            int before = count;
            count = 0;
            return before;
        }

        int count() {
            return count;
        }

        int faultPlace() {
            for (int place = 0; place < count; place++) {
                if (!stands(place)) {
                    return place;
                }
            }
            return count % PER_SPOT == 1 ? NONE : count;
        }

        /** Of a text without a fault. */
        int spots() {
            return Math.min(count / PER_SPOT + 1, SPOTS);
        }

        int glueOf(int spot) {
            return digitAt(spot * PER_SPOT);
        }

        int upperBehind(int spot) {
            return digitAt(spot * PER_SPOT + 2);
        }

        int underBehind(int spot) {
            return digitAt(spot * PER_SPOT + 3);
        }

        // What may stand at a place depends on the place alone: a SPOT, /, two digits, / and so on.
        private boolean stands(int place) {
            if (place >= LONGEST_TEXT) {
                return false;
            }
            switch (place % PER_SPOT) {
                case 0:
                    return within(digitAt(place), 0, MOST_GLUE);
                case 2:
                case 3:
                    return within(digitAt(place), 0, MOST_WAY);
                default:
                    return digitAt(place) == '/' - '0';
            }
        }

        private int digitAt(int place) {
            return within(place, 0, row.length - 1) ? row[place] - '0' : 0;
        }
    }

    /** Two sheets joined at SPOTS, with its DAMP and CURE. Behind the last SPOT both PIECES give way by 0. */
    private static final class Lap {
        private static final int FIRST_WORK = 10;

        final int[] glue;
        final int[] upper;
        final int[] under;
        final int[] work;
        final int[] wear;
        final int[] cells;
        int spots;
        int cure;

        Lap() {
            glue = new int[SPOTS];
            upper = new int[SPOTS];
            under = new int[SPOTS];
            work = new int[SPOTS];
            wear = new int[SPOTS];
            cells = new int[CELLS];
        }

        void readFrom(Signs signs) {
            spots = signs.spots();
            for (int i = 0; i < SPOTS; i++) {
                boolean there = i < spots;
                boolean followed = i < spots - 1;
                glue[i] = there ? signs.glueOf(i) : 0;
                upper[i] = followed ? signs.upperBehind(i) : 0;
                under[i] = followed ? signs.underBehind(i) : 0;
            }
            Arrays.fill(work, FIRST_WORK);
            Arrays.fill(wear, 0);
            Arrays.fill(cells, 0);
            cure = 0;
        }

        boolean hasSpot(int i) {
            return within(i, 0, spots - 1) && i < SPOTS;
        }

        boolean isLast(int i) {
            return i == spots - 1;
        }

        int holding() {
            int count = 0;
            for (int i = 0; i < SPOTS; i++) {
                if (glue[i] > 0) {
                    count++;
                }
            }
            return count;
        }

        boolean isLoose() {
            return holding() == 0;
        }

        // All CELLS change at once, so the one ahead is remembered as it was.
        void soak(int share, int air) {
            int ahead = air;
            for (int i = 0; i < CELLS; i++) {
                int was = cells[i];
                int behind = i < CELLS - 1 ? cells[i + 1] : air;
                cells[i] = was + share * (ahead + behind - 2 * was) / HUNDRED;
                ahead = was;
            }
        }

        void cureBy(int more) {
            cure = Math.min(cure + more, WHOLE);
        }

        int greatestDamp() {
            int greatest = 0;
            for (int i = 0; i < CELLS; i++) {
                greatest = Math.max(greatest, cells[i]);
            }
            return greatest;
        }
    }

    /** A LAP by a pull of one. All numbers are upper ones of fractions with one lower number. */
    private static final class Pulled {
        final long[] slip;
        final long[] shear;
        final long[] ahead;
        long lower;
        long way;
        private long firstSlip;

        Pulled() {
            slip = new long[SPOTS];
            shear = new long[SPOTS];
            ahead = new long[SPOTS];
            lower = 1;
        }

        /** Reckons a LAP as if one SPOT (or NOBODY) were off; whether anything holds then. */
        boolean reckon(Lap lap, int without) {
            findFirstSlip(lap, without);
            if (lower <= 0) {
                return false;
            }
            follow(lap, without);
            return true;
        }

        // Each SLIP is so many times the first one, and some more; so are all SHEARS together.
        // That they are one tells the first SLIP, and its lower number serves for all the others.
        private void findFirstSlip(Lap lap, int without) {
            long slipTimes = 1;
            long slipMore = 0;
            long shearTimes = 0;
            long shearMore = 0;
            for (int i = 0; i < SPOTS; i++) {
                long stiff = i == without ? 0 : lap.glue[i];
                long both = lap.upper[i] + lap.under[i];
                shearTimes += stiff * slipTimes;
                shearMore += stiff * slipMore;
                slipTimes += both * shearTimes;
                slipMore += both * shearMore - lap.upper[i];
            }
            lower = shearTimes;
            firstSlip = 1 - shearMore;
        }

        // Behind the last SPOT no PIECE gives way, so the SLIP stays the last one's till the end.
        private void follow(Lap lap, int without) {
            long slipNow = firstSlip;
            long shears = 0;
            way = 0;
            for (int i = 0; i < SPOTS; i++) {
                slip[i] = slipNow;
                shear[i] = i == without ? 0 : lap.glue[i] * slipNow;
                shears += shear[i];
                ahead[i] = lower - shears;
                way += lap.upper[i] * ahead[i];
                slipNow += lap.under[i] * shears - lap.upper[i] * ahead[i];
            }
            way += slipNow;
        }
    }

    /** What happens to a LAP that is not LOOSE: pulls, breaks, wear. */
    private static final class Breaks {
        private static final int WEAR_TIMES = 1000;

        private final Pulled pulled;
        private final long[] moreWear;
        private long backUpper;
        private long backLower;

        Breaks() {
            pulled = new Pulled();
            moreWear = new long[SPOTS];
            backLower = 1;
        }

        void tellPull(Lap lap, int i, int what, Fraction answer) {
            if (pulled.reckon(lap, NOBODY) && within(i, 0, SPOTS - 1)) {
                long upper = what == 0 ? pulled.slip[i] : what == 1 ? pulled.shear[i] : pulled.ahead[i];
                answer.reduce(upper, pulled.lower);
            }
        }

        void tellGive(Lap lap, Fraction answer) {
            if (pulled.reckon(lap, NOBODY)) {
                answer.reduce(pulled.way, pulled.lower);
            }
        }

        int hardestSpot(Lap lap) {
            pulled.reckon(lap, NOBODY);
            int hardest = NONE;
            long greatest = -1;
            for (int i = 0; i < SPOTS; i++) {
                long size = Math.abs(pulled.shear[i]);
                if (lap.glue[i] > 0 && size > greatest) {
                    greatest = size;
                    hardest = i;
                }
            }
            return hardest;
        }

        void tellBack(Lap lap, int i, int p, Fraction answer) {
            weighBack(lap, i);
            answer.reduce(backUpper * p * p, backLower);
        }

        int spreadingSpots(Lap lap, int p) {
            int bits = 0;
            for (int i = 0; i < SPOTS; i++) {
                if (goesBy(lap, i, p)) {
                    bits |= 1 << i;
                }
            }
            return bits;
        }

        int leastPull(Lap lap) {
            int least = MOST_PULL + 1;
            for (int i = 0; i < SPOTS; i++) {
                if (lap.glue[i] > 0) {
                    weighBack(lap, i);
                    least = leastPullOf(lap.work[i], least);
                }
            }
            return least > MOST_PULL ? NONE : least;
        }

        int breakBy(Lap lap, int p) {
            int gone = 0;
            for (int step = 0; step < SPOTS; step++) {
                int next = lowestSpreading(lap, p);
                if (next == NOBODY) {
                    return gone;
                }
                lap.glue[next] = 0;
                gone++;
                if (lap.isLoose()) {
                    return gone - RUNS;
                }
            }
            return gone;
        }

        int wearOut(Lap lap, int p, int rounds, int lasts) {
            boolean changed = true;
            for (int round = 1; round <= rounds; round++) {
                // As long as no SPOT goes off, each ROUND wears as the one ahead of it did.
                if (changed) {
                    weighWear(lap, p);
                }
                changed = wearOnce(lap, lasts);
                if (changed && lap.isLoose()) {
                    return round;
                }
            }
            return NONE;
        }

        /** Half of (GIVE without a SPOT, less GIVE): what it GIVES BACK by a pull of one. The SPOT is not off. */
        private void weighBack(Lap lap, int i) {
            pulled.reckon(lap, NOBODY);
            long way = pulled.way;
            long lower = pulled.lower;
            if (pulled.reckon(lap, i)) {
                backUpper = pulled.way * lower - way * pulled.lower;
                backLower = 2 * lower * pulled.lower;
            } else {
                backUpper = way;
                backLower = 2 * lower;
            }
        }

        private boolean isEnough(int p, int work) {
            return backUpper * p * p >= backLower * work;
        }

        private int leastPullOf(int work, int known) {
            for (int p = 1; p < known; p++) {
                if (isEnough(p, work)) {
                    return p;
                }
            }
            return known;
        }

        private boolean goesBy(Lap lap, int i, int p) {
            if (lap.glue[i] == 0) {
                return false;
            }
            weighBack(lap, i);
            return isEnough(p, lap.work[i]);
        }

        private int lowestSpreading(Lap lap, int p) {
            for (int i = 0; i < SPOTS; i++) {
                if (goesBy(lap, i, p)) {
                    return i;
                }
            }
            return NOBODY;
        }

        private void weighWear(Lap lap, int p) {
            boolean holds = pulled.reckon(lap, NOBODY);
            for (int i = 0; i < SPOTS; i++) {
                moreWear[i] = holds ? WEAR_TIMES * p * Math.abs(pulled.shear[i]) / pulled.lower : 0;
            }
        }

        private boolean wearOnce(Lap lap, int lasts) {
            boolean changed = false;
            for (int i = 0; i < SPOTS; i++) {
                if (lap.glue[i] > 0) {
                    lap.wear[i] += (int) moreWear[i];
                    if (lap.wear[i] >= lasts) {
                        lap.glue[i] = 0;
                        changed = true;
                    }
                }
            }
            return changed;
        }
    }

    /** JOINTS and their best order. What has been found is kept till a JOINT or CLAMPS change. */
    private static final class Joints {
        static final int COUNT = 7;
        static final int ALL = 127;
        static final int MOST_HOURS = 100;
        private static final int MOST_CLAMPS = 3;
        private static final int NOT_FOUND = COUNT * MOST_HOURS + 1;

        private final int[] hours;
        private final int[] needs;
        private final int[] freeAt;
        private final int[] order;
        private final int[] starts;
        private final int[] bestOrder;
        private final int[] bestStarts;
        private int bestEnd;
        private int clamps;
        private int there;
        private int solvedClamps;

        Joints() {
            hours = new int[COUNT];
            needs = new int[COUNT];
            freeAt = new int[MOST_CLAMPS];
            order = new int[COUNT];
            starts = new int[COUNT];
            bestOrder = new int[COUNT];
            bestStarts = new int[COUNT];
        }

        int change(int joint, int newHours, int newNeeds) {
            if (!within(joint, 0, COUNT - 1)) {
                return UNKNOWN;
            }
            int before = hours[joint];
            hours[joint] = newHours;
            needs[joint] = newNeeds;
            solvedClamps = 0;
            return before;
        }

        boolean isThere(int joint) {
            return within(joint, 0, COUNT - 1) && hours[joint] > 0;
        }

        int bits() {
            int bits = 0;
            for (int joint = 0; joint < COUNT; joint++) {
                if (isThere(joint)) {
                    bits |= 1 << joint;
                }
            }
            return bits;
        }

        int end() {
            return bestEnd;
        }

        int inOrder(int i) {
            return within(i, 0, there - 1) && i < COUNT ? bestOrder[i] : NONE;
        }

        int startOf(int joint) {
            return isThere(joint) ? bestStarts[joint] : UNKNOWN;
        }

        /** Whether there is a safe order of all JOINTS; the best one is known then. */
        boolean findBest(int withClamps) {
            if (solvedClamps != withClamps) {
                solvedClamps = withClamps;
                clamps = Math.min(withClamps, MOST_CLAMPS);
                search();
            }
            return bestEnd < NOT_FOUND;
        }

        private void search() {
            there = Integer.bitCount(bits());
            bestEnd = NOT_FOUND;
            Arrays.fill(freeAt, 0);
            if (canAllBeCured()) {
                goOn(0, 0, 0, 0);
            }
        }

        // In COUNT goes all are cured that do not lean on a ring, or on one that is not there.
        private boolean canAllBeCured() {
            int cured = 0;
            for (int go = 0; go < COUNT; go++) {
                for (int joint = 0; joint < COUNT; joint++) {
                    if (isThere(joint) && (needs[joint] & ~cured) == 0) {
                        cured |= 1 << joint;
                    }
                }
            }
            return cured == bits();
        }

        // Orders come by numbers, and only a lesser END takes the place of one: so the first stays.
        private void goOn(int depth, int placed, int since, int end) {
            if (depth >= there || depth >= COUNT) {
                keep(end);
                return;
            }
            if (cannotEndSooner(placed)) {
                return;
            }
            for (int joint = 0; joint < COUNT; joint++) {
                boolean waits = isThere(joint) && (placed & 1 << joint) == 0;
                if (waits && (needs[joint] & ~placed) == 0) {
                    place(joint, depth, placed, since, end);
                }
            }
        }

        private void place(int joint, int depth, int placed, int since, int end) {
            int clamp = firstFreeClamp();
            int before = freeAt[clamp];
            int start = Math.max(Math.max(since, before), needsCuredAt(joint));
            int cured = start + hours[joint];
            int newEnd = Math.max(end, cured);
            if (newEnd >= bestEnd || depth >= COUNT) {
                return;
            }
            order[depth] = joint;
            starts[joint] = start;
            freeAt[clamp] = cured;
            goOn(depth + 1, placed | 1 << joint, start, newEnd);
            freeAt[clamp] = before;
        }

        // Even if no CLAMP ever waited, the hours that are left would fill all of them too long.
        private boolean cannotEndSooner(int placed) {
            int busy = 0;
            for (int clamp = 0; clamp < clamps; clamp++) {
                busy += freeAt[clamp];
            }
            for (int joint = 0; joint < COUNT; joint++) {
                if ((placed & 1 << joint) == 0) {
                    busy += hours[joint];
                }
            }
            return busy > clamps * (bestEnd - 1);
        }

        private int firstFreeClamp() {
            int earliest = 0;
            for (int clamp = 1; clamp < clamps; clamp++) {
                if (freeAt[clamp] < freeAt[earliest]) {
                    earliest = clamp;
                }
            }
            return earliest;
        }

        private int needsCuredAt(int joint) {
            int at = 0;
            for (int other = 0; other < COUNT; other++) {
                if ((needs[joint] & 1 << other) != 0) {
                    at = Math.max(at, starts[other] + hours[other]);
                }
            }
            return at;
        }

        private void keep(int end) {
            bestEnd = end;
            for (int i = 0; i < COUNT; i++) {
                bestOrder[i] = order[i];
                bestStarts[i] = starts[i];
            }
        }
    }

    /** STRIPS that were tested. */
    private static final class Strips {
        static final int ODDS_OF = 20;
        private static final int ROOM = 20;
        private static final int MOST_LOOKED_AT = 12;

        private final int[] strength;
        private final boolean[] barred;
        private final long[] weights;
        private int count;

        Strips() {
            strength = new int[ROOM];
            barred = new boolean[ROOM];
            weights = new long[MOST_LOOKED_AT + 1];
        }

        int append(int newStrength) {
            if (count >= ROOM) {
                return FULL;
            }
            strength[count] = newStrength;
            count++;
            return count - 1;
        }

        int count() {
            return count;
        }

        int changeBarred(int strip, boolean is) {
            if (!within(strip, 0, count - 1) || strip >= ROOM) {
                return UNKNOWN;
            }
            int before = barred[strip] ? 1 : 0;
            barred[strip] = is;
            return before;
        }

        int kept() {
            int kept = 0;
            for (int i = 0; i < count; i++) {
                if (!barred[i]) {
                    kept++;
                }
            }
            return kept;
        }

        void tellMean(Fraction answer) {
            answer.reduce(sum(), kept());
        }

        // The mean of squares off the MEAN is the mean of squares, less the MEAN's square.
        void tellSpread(Fraction answer) {
            long kept = kept();
            long sum = sum();
            answer.reduce(kept * sumOfSquares() - sum * sum, kept * kept);
        }

        int countWeak(int line) {
            return weakAmongFirst(ROOM, line);
        }

        /** The odds in twentieths by as many strips as are looked at: all weights have 20 to that power in sum. */
        void tellOdds(int w, int line, Fraction answer) {
            int looked = Math.min(kept(), MOST_LOOKED_AT);
            weigh(looked, w);
            int weak = weakAmongFirst(MOST_LOOKED_AT, line);
            long upper = 0;
            long lower = 0;
            for (int i = 0; i <= looked; i++) {
                lower += weights[i];
                if (i >= weak) {
                    upper += weights[i];
                }
            }
            answer.reduce(upper, lower);
        }

        // weights[i]: how many of all 20 to the power of strips cases have just i WEAK ones.
        private void weigh(int strips, int w) {
            Arrays.fill(weights, 0);
            weights[0] = 1;
            for (int strip = 1; strip <= strips; strip++) {
                for (int i = Math.min(strip, MOST_LOOKED_AT); i >= 1; i--) {
                    weights[i] = weights[i] * (ODDS_OF - w) + weights[i - 1] * w;
                }
                weights[0] *= ODDS_OF - w;
            }
        }

        private int weakAmongFirst(int most, int line) {
            int looked = 0;
            int weak = 0;
            for (int i = 0; i < count && looked < most; i++) {
                if (!barred[i]) {
                    looked++;
                    if (strength[i] < line) {
                        weak++;
                    }
                }
            }
            return weak;
        }

        private long sum() {
            long sum = 0;
            for (int i = 0; i < count; i++) {
                if (!barred[i]) {
                    sum += strength[i];
                }
            }
            return sum;
        }

        private long sumOfSquares() {
            long sum = 0;
            for (int i = 0; i < count; i++) {
                if (!barred[i]) {
                    sum += (long) strength[i] * strength[i];
                }
            }
            return sum;
        }
    }

    /** What was heard at the PLACES, and which GAPS it leaves. */
    private static final class Knocks {
        static final int PLACES = 10;
        static final int SHEETS = 4;
        static final int GAPS = 4;
        static final int MOST_SOUND = 9;
        static final int SILENT = -1;
        private static final int ALL_GAPS = 15;

        final int[] heard;
        final int[] sheetOf;
        final int[] soundOf;
        private final int[] ways;
        private final int[] nextWays;

        Knocks() {
            heard = new int[PLACES];
            sheetOf = new int[PLACES];
            soundOf = new int[SHEETS * GAPS];
            ways = new int[GAPS];
            nextWays = new int[GAPS];
            Arrays.fill(heard, SILENT);
        }

        int gapsThatFit(int place) {
            if (!within(place, 0, PLACES - 1)) {
                return 0;
            }
            int sound = heard[place];
            int bits = 0;
            for (int gap = 0; gap < GAPS; gap++) {
                if (sound == SILENT || soundAt(sheetOf[place], gap) == sound) {
                    bits |= 1 << gap;
                }
            }
            return bits;
        }

        int rowsThatFit(int step) {
            for (int gap = 0; gap < GAPS; gap++) {
                ways[gap] = gapsThatFit(0) >> gap & 1;
            }
            for (int place = 1; place < PLACES; place++) {
                goOnTo(gapsThatFit(place), step);
            }
            int rows = 0;
            for (int gap = 0; gap < GAPS; gap++) {
                rows += ways[gap];
            }
            return rows;
        }

        int onlyGap(int place, int step) {
            int bits = gapsInRows(place, step);
            return Integer.bitCount(bits) == 1 ? Integer.numberOfTrailingZeros(bits) : NONE;
        }

        int pairsAlike(int sheet) {
            int pairs = 0;
            for (int gap = 0; gap < GAPS; gap++) {
                for (int other = gap + 1; other < GAPS; other++) {
                    if (soundAt(sheet, gap) == soundAt(sheet, other)) {
                        pairs++;
                    }
                }
            }
            return pairs;
        }

        // A GAP is in some row if it fits, and can be come to from either end.
        private int gapsInRows(int place, int step) {
            int fromFirst = ALL_GAPS;
            for (int other = 0; other < place && other < PLACES; other++) {
                fromFirst = near(fromFirst & gapsThatFit(other), step);
            }
            int fromLast = ALL_GAPS;
            for (int other = PLACES - 1; other > place && other >= 0; other--) {
                fromLast = near(fromLast & gapsThatFit(other), step);
            }
            return fromFirst & fromLast & gapsThatFit(place);
        }

        private static int near(int bits, int step) {
            int near = bits;
            for (int off = 1; off <= step && off < GAPS; off++) {
                near |= bits << off | bits >> off;
            }
            return near & ALL_GAPS;
        }

        private void goOnTo(int fitting, int step) {
            for (int gap = 0; gap < GAPS; gap++) {
                nextWays[gap] = 0;
                for (int from = 0; from < GAPS; from++) {
                    if ((fitting >> gap & 1) == 1 && Math.abs(gap - from) <= step) {
                        nextWays[gap] += ways[from];
                    }
                }
            }
            System.arraycopy(nextWays, 0, ways, 0, GAPS);
        }

        private int soundAt(int sheet, int gap) {
            int at = sheet * GAPS + gap;
            return within(at, 0, soundOf.length - 1) ? soundOf[at] : SILENT;
        }
    }

    /** LAPS that could be made, by KIND and PRICE. */
    private static final class Choices {
        static final int KINDS = 4;
        static final int ANY_KIND = -1;
        static final int MOST_PRICE = 1000;
        private static final int ROOM = 12;

        private final int[] kinds;
        private final int[] prices;
        private final int[] holding;
        private final int[] showing;
        private int count;

        Choices() {
            kinds = new int[ROOM];
            prices = new int[ROOM];
            holding = new int[ROOM];
            showing = new int[ROOM];
        }

        int append(int kind, int price, int holds, int shows) {
            if (count >= ROOM) {
                return FULL;
            }
            kinds[count] = kind;
            prices[count] = price;
            holding[count] = holds;
            showing[count] = shows;
            count++;
            return count - 1;
        }

        int count() {
            return count;
        }

        int bestFor(int load, int kind, int margin) {
            int found = NONE;
            int least = MOST_PRICE + 1;
            for (int i = 0; i < count; i++) {
                boolean ofKind = kind == ANY_KIND || kinds[i] == kind;
                if (ofKind && holding[i] >= load && warns(i, margin) && prices[i] < least) {
                    least = prices[i];
                    found = i;
                }
            }
            return found;
        }

        private boolean warns(int i, int margin) {
            return holding[i] - showing[i] >= holding[i] * margin / HUNDRED;
        }
    }
}
