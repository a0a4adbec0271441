import java.lang.reflect.InvocationTargetException;
import java.lang.reflect.Method;
import java.math.BigInteger;
import java.util.ArrayList;
import java.util.Arrays;
import java.util.List;
import java.util.Random;
import java.util.TreeSet;

/**
 * Long runs of calls, with right, edge and wild arguments, on the class and on a slow plain model that
 * takes other ways to the same answers: equations solved by elimination, all orders, all rows, all cases.
 */
public final class PlainModelTest {
    private static final int OBJECTS = 400;
    private static final int CALLS = 512;
    private static final int[] WILD = {Integer.MIN_VALUE, Integer.MAX_VALUE, -1, -2, -6, 1 << 30, -(1 << 30), 1000000001};

    private static final int[][] SETTINGS = {{1, 200000}, {0, 50}, {0, 1000}, {0, 49}, {1, 3}, {0, 10000}, {0, 3}, {0, 100}};

    private final Random random = new Random(20261118L);
    private final List<String> run = new ArrayList<>();
    private GlueHouse house;
    private Model model;
    private int wrong;

    public static void main(String[] args) throws Exception {
        PlainModelTest test = new PlainModelTest();
        for (int object = 0; object < OBJECTS && test.wrong == 0; object++) {
            test.runObject(object);
        }
        System.out.println(test.wrong == 0 ? "the class answers as the plain model does" : "the class does not answer as the plain model does");
        if (test.wrong != 0) {
            System.exit(1);
        }
    }

    private void runObject(int object) throws Exception {
        house = new GlueHouse();
        model = new Model();
        run.clear();
        int theme = object % 8;
        for (int lap = 0; lap < 3; lap++) {
            call("wipe");
            sayText();
            call("read", lap);
        }
        while (run.size() < CALLS && wrong == 0) {
            step(theme);
        }
    }

    private void step(int theme) throws Exception {
        if (random.nextInt(40) == 0) {
            sayText();
            call("read", random.nextInt(3));
            return;
        }
        String[] names = theme == 0 || random.nextInt(12) == 0 ? ALL : THEMES[theme];
        String name = names[random.nextInt(names.length)];
        int[][] ranges = rangesOf(name);
        Object[] args = new Object[ranges.length];
        for (int i = 0; i < args.length; i++) {
            args[i] = number(ranges[i][0], ranges[i][1]);
        }
        call(name, telling(name, args));
    }

    /** Most numbers drawn evenly would only show refusals or emptiness; these show more. */
    private Object[] telling(String name, Object[] args) {
        if (name.equals("bar")) {
            return new Object[] {args[0], random.nextInt(3) == 0};
        }
        if (random.nextInt(10) == 0) {
            return args;
        }
        switch (name) {
            case "set":
                int which = random.nextInt(8);
                return new Object[] {which, number(SETTINGS[which][0], SETTINGS[which][1])};
            case "joint":
                int needs = random.nextInt(128) & random.nextInt(128) & random.nextInt(128);
                int joint = random.nextInt(7);
                int onlyEarlier = random.nextInt(8) == 0 ? needs : needs & (1 << joint) - 1 & model.told(4);
                return new Object[] {joint, random.nextInt(4) == 0 ? 0 : 1 + random.nextInt(20), onlyEarlier};
            case "table":
                return new Object[] {args[0], args[1], random.nextInt(4)};
            case "knock":
                return new Object[] {args[0], random.nextInt(3) - 1};
            case "cheapest":
                return new Object[] {random.nextInt(3000), args[1]};
            case "choice":
                return new Object[] {args[0], random.nextInt(30), args[2], random.nextInt(5000)};
            case "work":
                return new Object[] {args[0], args[1], random.nextInt(60)};
            case "snap":
                return new Object[] {args[0], 1 + random.nextInt(12)};
            case "rounds":
                return new Object[] {args[0], 1 + random.nextInt(30), 1 + random.nextInt(10)};
            case "glue":
                return new Object[] {args[0], args[1], random.nextInt(4) == 0 ? 0 : 1 + random.nextInt(5)};
            case "rate":
                return new Object[] {args[0], random.nextInt(5)};
            case "hours":
                return new Object[] {args[0], 1 + random.nextInt(40)};
            default:
                return args;
        }
    }

    private int number(int least, int most) {
        int luck = random.nextInt(100);
        if (luck < 2) {
            return WILD[random.nextInt(WILD.length)];
        }
        if (luck < 4) {
            return random.nextBoolean() ? least - 1 : most + 1;
        }
        if (luck < 14) {
            return random.nextBoolean() ? least : most;
        }
        int span = luck < 40 ? Math.min(most - least, 20) : most - least;
        return least + random.nextInt(span + 1);
    }

    private void sayText() throws Exception {
        if (random.nextInt(4) != 0) {
            call("wipe");
        }
        int spots = Math.max(1 + random.nextInt(5), random.nextInt(5)) + random.nextInt(20) / 19;
        StringBuilder text = new StringBuilder();
        for (int i = 0; i < spots; i++) {
            if (i > 0) {
                text.append('/').append(random.nextInt(4)).append(random.nextInt(4)).append('/');
            }
            text.append(random.nextInt(6));
        }
        if (random.nextInt(6) == 0) {
            text.setCharAt(random.nextInt(text.length()), (char) (33 + random.nextInt(94)));
        }
        if (random.nextInt(8) == 0) {
            text.setLength(random.nextInt(text.length()));
        }
        for (int i = 0; i < text.length(); i++) {
            call("say", (int) text.charAt(i));
        }
        call("fault");
    }

    private void call(String name, Object... args) throws Exception {
        long got = answer(house, name, args);
        long due = answer(model, name, args);
        run.add(name + Arrays.toString(args) + " -> " + got);
        if (got != due) {
            wrong++;
            for (String row : run) {
                System.out.println(row);
            }
            System.out.println("due is " + due);
        }
    }

    private static long answer(Object on, String name, Object[] args) throws Exception {
        for (Method method : on.getClass().getDeclaredMethods()) {
            if (method.getName().equals(name) && method.getParameterCount() == args.length) {
                try {
                    return ((Number) method.invoke(on, args)).longValue();
                } catch (InvocationTargetException thrown) {
                    throw new IllegalStateException(name + Arrays.toString(args), thrown.getCause());
                }
            }
        }
        throw new IllegalStateException("no method " + name);
    }

    private static final String[] ALL = {"say", "wipe", "fault", "read", "spot", "glue", "work", "pull", "give", "hardest", "back",
        "spreads", "first", "snap", "rounds", "set", "damp", "hours", "of", "rate", "joint", "best", "begun", "strip", "bar",
        "strips", "weak", "odd", "knock", "sheet", "table", "fit", "fits", "sure", "unseen", "choice", "cheapest", "led", "told"};

    private static final String[][] THEMES = {
        ALL,
        {"spot", "glue", "work", "pull", "pull", "give", "hardest", "back", "of"},
        {"glue", "work", "back", "spreads", "first", "snap", "rounds", "rounds", "set", "spot", "spot", "of"},
        {"set", "damp", "hours", "of", "of", "rate", "led", "led"},
        {"joint", "joint", "best", "best", "begun", "set"},
        {"strip", "bar", "strips", "weak", "odd", "set"},
        {"knock", "sheet", "table", "table", "fit", "fits", "sure", "sure", "unseen", "set"},
        {"choice", "cheapest", "cheapest", "set", "led", "damp", "told"},
    };

    private static int[][] rangesOf(String name) {
        int[] lap = {0, 2};
        int[] spot = {0, 4};
        int[] part = {0, 1};
        int[] pull = {1, 100};
        int[] load = {0, 10000};
        int[] place = {0, 9};
        switch (name) {
            case "say": return new int[][] {{33, 126}};
            case "read": return new int[][] {{0, 5}};
            case "spot": return new int[][] {lap, spot, {0, 4}};
            case "glue": return new int[][] {lap, spot, {0, 5}};
            case "work": return new int[][] {lap, spot, {0, 1000}};
            case "pull": return new int[][] {lap, spot, {0, 2}, part};
            case "give": return new int[][] {lap, part};
            case "hardest": case "first": return new int[][] {lap};
            case "back": return new int[][] {lap, spot, pull, part};
            case "spreads": case "snap": return new int[][] {lap, pull};
            case "rounds": return new int[][] {lap, pull, {1, 1000}};
            case "set": return new int[][] {{0, 7}, {0, 100}};
            case "damp": return new int[][] {lap, {0, 9}, {0, 1000}};
            case "hours": return new int[][] {lap, {1, 1000}};
            case "of": return new int[][] {lap, {0, 12}};
            case "rate": return new int[][] {{0, 4}, {0, 100}};
            case "joint": return new int[][] {{0, 6}, {0, 100}, {0, 127}};
            case "best": return new int[][] {{-1, 7}};
            case "begun": return new int[][] {{0, 6}};
            case "strip": return new int[][] {load};
            case "bar": return new int[][] {{0, 19}, {0, 1}};
            case "strips": return new int[][] {{0, 1}, part};
            case "odd": return new int[][] {{1, 19}, part};
            case "knock": return new int[][] {place, {-1, 9}};
            case "sheet": return new int[][] {place, {0, 3}};
            case "table": return new int[][] {{0, 3}, {0, 3}, {0, 9}};
            case "fit": case "sure": return new int[][] {place};
            case "unseen": return new int[][] {{0, 3}};
            case "choice": return new int[][] {{0, 3}, {0, 1000}, load, load};
            case "cheapest": return new int[][] {load, {-1, 3}};
            case "led": return new int[][] {lap, load, {0, 100}, load, load, {0, 1}};
            case "told": return new int[][] {{0, 17}};
            default: return new int[0][];
        }
    }

    /** A fraction of any size. */
    private record Part(BigInteger upper, BigInteger lower) {
        static final Part ZERO = of(0, 1);
        static final Part ONE = of(1, 1);

        static Part of(long upper, long lower) {
            return cut(BigInteger.valueOf(upper), BigInteger.valueOf(lower));
        }

        static Part cut(BigInteger upper, BigInteger lower) {
            BigInteger common = upper.gcd(lower);
            if (lower.signum() < 0) {
                common = common.negate();
            }
            return new Part(upper.divide(common), lower.divide(common));
        }

        Part plus(Part o) {
            return cut(upper.multiply(o.lower).add(o.upper.multiply(lower)), lower.multiply(o.lower));
        }

        Part minus(Part o) {
            return plus(new Part(o.upper.negate(), o.lower));
        }

        Part times(Part o) {
            return cut(upper.multiply(o.upper), lower.multiply(o.lower));
        }

        Part times(long n) {
            return times(of(n, 1));
        }

        Part by(Part o) {
            return cut(upper.multiply(o.lower), lower.multiply(o.upper));
        }

        Part size() {
            return new Part(upper.abs(), lower);
        }

        int compare(Part o) {
            return minus(o).upper.signum();
        }

        long told(int part) {
            return (part == 0 ? upper : lower).longValueExact();
        }
    }

    private static final class ModelLap {
        int n;
        int[] g;
        int[] a;
        int[] b;
        int[] work;
        long[] wear;
        int[] cells = new int[10];
        int cure;

        boolean loose() {
            return Arrays.stream(g).allMatch(x -> x == 0);
        }

        // Unknown are all SLIPS at once: one row for each PIECE, and one for the sum of SHEARS.
        Part[] slips(int[] glue) {
            Part[][] rows = new Part[n][n + 1];
            for (Part[] row : rows) {
                Arrays.fill(row, Part.ZERO);
            }
            for (int k = 0; k < n - 1; k++) {
                rows[k][k + 1] = rows[k][k + 1].plus(Part.ONE);
                rows[k][k] = rows[k][k].minus(Part.ONE);
                for (int j = 0; j <= k; j++) {
                    rows[k][j] = rows[k][j].minus(Part.of((long) (a[k] + b[k]) * glue[j], 1));
                }
                rows[k][n] = Part.of(-a[k], 1);
            }
            for (int j = 0; j < n; j++) {
                rows[n - 1][j] = Part.of(glue[j], 1);
            }
            rows[n - 1][n] = Part.ONE;
            return solve(rows);
        }

        private Part[] solve(Part[][] rows) {
            for (int column = 0; column < n; column++) {
                int pivot = column;
                while (rows[pivot][column].upper().signum() == 0) {
                    pivot++;
                }
                Part[] swap = rows[pivot];
                rows[pivot] = rows[column];
                rows[column] = swap;
                for (int r = 0; r < n; r++) {
                    if (r != column && rows[r][column].upper().signum() != 0) {
                        Part times = rows[r][column].by(rows[column][column]);
                        for (int c = column; c <= n; c++) {
                            rows[r][c] = rows[r][c].minus(times.times(rows[column][c]));
                        }
                    }
                }
            }
            Part[] found = new Part[n];
            for (int r = 0; r < n; r++) {
                found[r] = rows[r][n].by(rows[r][r]);
            }
            return found;
        }

        Part upperPull(Part[] slips, int[] glue, int k) {
            Part pull = Part.ONE;
            for (int j = 0; j <= k; j++) {
                pull = pull.minus(slips[j].times(glue[j]));
            }
            return pull;
        }

        Part give(int[] glue) {
            Part[] slips = slips(glue);
            Part give = slips[n - 1];
            for (int k = 0; k < n - 1; k++) {
                give = give.plus(upperPull(slips, glue, k).times(a[k]));
            }
            return give;
        }

        Part back(int i, int p) {
            int[] less = g.clone();
            less[i] = 0;
            Part give = give(g);
            boolean last = Arrays.stream(less).allMatch(x -> x == 0);
            Part off = last ? give : give(less).minus(give);
            return off.times(Part.of((long) p * p, 2));
        }

        int spreads(int p) {
            int bits = 0;
            for (int i = 0; i < n; i++) {
                if (g[i] > 0 && back(i, p).compare(Part.of(work[i], 1)) >= 0) {
                    bits |= 1 << i;
                }
            }
            return bits;
        }
    }

    /** The document once more, word by word and slowly. */
    private static final class Model {
        private final StringBuilder text = new StringBuilder();
        private final ModelLap[] laps = new ModelLap[6];
        private final int[] settings = {100000, 20, 0, 20, 1, 1000, 3, 20};
        private final int[] rates = new int[5];
        private final int[] hours = new int[7];
        private final int[] needs = new int[7];
        private final List<Integer> strengths = new ArrayList<>();
        private final List<Boolean> barred = new ArrayList<>();
        private final int[] sounds = {-1, -1, -1, -1, -1, -1, -1, -1, -1, -1};
        private final int[] sheets = new int[10];
        private final int[][] table = new int[4][4];
        private final List<int[]> choices = new ArrayList<>();

        private static boolean in(int v, int least, int most) {
            return v >= least && v <= most;
        }

        private ModelLap lap(int lap) {
            return in(lap, 0, 5) ? laps[lap] : null;
        }

        private boolean noSpot(int lap, int i) {
            return lap(lap) == null || i < 0 || i >= lap(lap).n;
        }

        int say(int sign) {
            if (sign < 33 || sign > 126) {
                return -2;
            }
            if (text.length() == 40) {
                return -4;
            }
            text.append((char) sign);
            return text.length();
        }

        int wipe() {
            int n = text.length();
            text.setLength(0);
            return n;
        }

        // A text stands up to a place if some whole text begins with it.
        int fault() {
            String all = text.toString();
            if (all.matches("[0-5](/[0-3][0-3]/[0-5]){0,4}")) {
                return -6;
            }
            int place = 0;
            while (place < all.length() && begins(all.substring(0, place + 1))) {
                place++;
            }
            return place;
        }

        private static boolean begins(String start) {
            String whole = "0/00/0/00/0/00/0/00/0";
            return start.length() <= whole.length()
                && (start + whole.substring(start.length())).matches("[0-5](/[0-3][0-3]/[0-5]){0,4}");
        }

        int read(int lap) {
            if (!in(lap, 0, 5)) {
                return -1;
            }
            if (fault() != -6) {
                return -5;
            }
            String[] parts = text.toString().split("/");
            ModelLap made = new ModelLap();
            made.n = parts.length / 2 + 1;
            made.g = new int[made.n];
            made.a = new int[made.n];
            made.b = new int[made.n];
            made.work = new int[made.n];
            made.wear = new long[made.n];
            Arrays.fill(made.work, 10);
            for (int k = 0; k < parts.length; k++) {
                if (k % 2 == 0) {
                    made.g[k / 2] = Integer.parseInt(parts[k]);
                } else {
                    made.a[k / 2] = Integer.parseInt(parts[k].substring(0, 1));
                    made.b[k / 2] = Integer.parseInt(parts[k].substring(1));
                }
            }
            text.setLength(0);
            laps[lap] = made;
            return made.n;
        }

        int spot(int lap, int i, int what) {
            if (noSpot(lap, i)) {
                return -1;
            }
            if (!in(what, 0, 4)) {
                return -2;
            }
            ModelLap l = lap(lap);
            if ((what == 1 || what == 2) && i == l.n - 1) {
                return -6;
            }
            return new int[] {l.g[i], l.a[i], l.b[i], l.work[i], (int) l.wear[i]}[what];
        }

        int glue(int lap, int i, int g) {
            if (noSpot(lap, i)) {
                return -1;
            }
            if (!in(g, 0, 5)) {
                return -2;
            }
            int was = lap(lap).g[i];
            lap(lap).g[i] = g;
            return was;
        }

        int work(int lap, int i, int v) {
            if (noSpot(lap, i)) {
                return -1;
            }
            if (!in(v, 0, 1000)) {
                return -2;
            }
            int was = lap(lap).work[i];
            lap(lap).work[i] = v;
            return was;
        }

        long pull(int lap, int i, int what, int part) {
            if (noSpot(lap, i)) {
                return GlueHouse.LOST - 1;
            }
            if (!in(what, 0, 2) || !in(part, 0, 1)) {
                return GlueHouse.LOST - 2;
            }
            ModelLap l = lap(lap);
            if (l.loose()) {
                return GlueHouse.LOST - 3;
            }
            Part[] slips = l.slips(l.g);
            return (what == 0 ? slips[i] : what == 1 ? slips[i].times(l.g[i]) : l.upperPull(slips, l.g, i)).told(part);
        }

        long give(int lap, int part) {
            ModelLap l = lap(lap);
            if (l == null) {
                return GlueHouse.LOST - 1;
            }
            if (!in(part, 0, 1)) {
                return GlueHouse.LOST - 2;
            }
            return l.loose() ? GlueHouse.LOST - 3 : l.give(l.g).told(part);
        }

        int hardest(int lap) {
            ModelLap l = lap(lap);
            if (l == null || l.loose()) {
                return l == null ? -1 : -3;
            }
            Part[] slips = l.slips(l.g);
            int best = -1;
            for (int i = 0; i < l.n; i++) {
                if (l.g[i] > 0 && (best < 0 || slips[i].times(l.g[i]).size().compare(slips[best].times(l.g[best]).size()) > 0)) {
                    best = i;
                }
            }
            return best;
        }

        long back(int lap, int i, int p, int part) {
            if (noSpot(lap, i)) {
                return GlueHouse.LOST - 1;
            }
            if (!in(p, 1, 100) || !in(part, 0, 1)) {
                return GlueHouse.LOST - 2;
            }
            return lap(lap).g[i] == 0 ? GlueHouse.LOST - 3 : lap(lap).back(i, p).told(part);
        }

        private int refused(int lap, boolean outside) {
            return lap(lap) == null ? -1 : outside ? -2 : lap(lap).loose() ? -3 : 0;
        }

        int spreads(int lap, int p) {
            int refused = refused(lap, !in(p, 1, 100));
            return refused != 0 ? refused : lap(lap).spreads(p);
        }

        int first(int lap) {
            int refused = refused(lap, false);
            if (refused != 0) {
                return refused;
            }
            int low = 1;
            int high = 101;
            while (low < high) {
                int middle = (low + high) / 2;
                if (middle <= 100 && lap(lap).spreads(middle) == 0) {
                    low = middle + 1;
                } else {
                    high = middle;
                }
            }
            return low > 100 ? -6 : low;
        }

        int snap(int lap, int p) {
            int refused = refused(lap, !in(p, 1, 100));
            if (refused != 0) {
                return refused;
            }
            ModelLap l = lap(lap);
            int gone = 0;
            while (!l.loose() && l.spreads(p) != 0) {
                l.g[Integer.numberOfTrailingZeros(l.spreads(p))] = 0;
                gone++;
            }
            return l.loose() ? gone - 100 : gone;
        }

        int rounds(int lap, int p, int n) {
            int refused = refused(lap, !in(p, 1, 100) || !in(n, 1, 1000));
            if (refused != 0) {
                return refused;
            }
            ModelLap l = lap(lap);
            int[] knownFor = null;
            Part[] slips = null;
            for (int round = 1; round <= n; round++) {
                if (!Arrays.equals(knownFor, l.g)) {
                    knownFor = l.g.clone();
                    slips = l.slips(l.g);
                }
                for (int i = 0; i < l.n; i++) {
                    Part more = slips[i].times(l.g[i]).size().times(1000L * p);
                    l.wear[i] += more.upper().divide(more.lower()).longValueExact();
                }
                for (int i = 0; i < l.n; i++) {
                    if (l.wear[i] >= settings[0]) {
                        l.g[i] = 0;
                    }
                }
                if (l.loose()) {
                    return round;
                }
            }
            return -6;
        }

        int set(int which, int v) {
            int[][] ranges = {{1, 1000000}, {0, 50}, {0, 1000}, {0, 49}, {1, 3}, {0, 10000}, {0, 3}, {0, 100}};
            if (!in(which, 0, 7) || !in(v, ranges[which][0], ranges[which][1])) {
                return -2;
            }
            int was = settings[which];
            settings[which] = v;
            return was;
        }

        int damp(int lap, int cell, int v) {
            if (lap(lap) == null) {
                return -1;
            }
            if (!in(cell, 0, 9) || !in(v, 0, 1000)) {
                return -2;
            }
            int was = lap(lap).cells[cell];
            lap(lap).cells[cell] = v;
            return was;
        }

        int hours(int lap, int n) {
            if (lap(lap) == null) {
                return -1;
            }
            if (!in(n, 1, 1000)) {
                return -2;
            }
            ModelLap l = lap(lap);
            for (int hour = 0; hour < n; hour++) {
                int[] was = new int[12];
                was[0] = settings[2];
                was[11] = settings[2];
                System.arraycopy(l.cells, 0, was, 1, 10);
                for (int i = 1; i <= 10; i++) {
                    l.cells[i - 1] = was[i] + settings[1] * (was[i - 1] + was[i + 1] - 2 * was[i]) / 100;
                }
                l.cure = Math.min(1000, l.cure + rates[settings[3] / 10]);
            }
            return l.cure;
        }

        int of(int lap, int what) {
            ModelLap l = lap(lap);
            if (l == null) {
                return -1;
            }
            if (!in(what, 0, 12)) {
                return -2;
            }
            return what < 10 ? l.cells[what] : what == 10 ? l.cure : what == 11 ? l.n : (int) Arrays.stream(l.g).filter(x -> x > 0).count();
        }

        int rate(int ten, int v) {
            if (!in(ten, 0, 4) || !in(v, 0, 100)) {
                return -2;
            }
            int was = rates[ten];
            rates[ten] = v;
            return was;
        }

        int joint(int joint, int h, int need) {
            if (!in(joint, 0, 6)) {
                return -1;
            }
            if (!in(h, 0, 100) || !in(need, 0, 127)) {
                return -2;
            }
            int was = hours[joint];
            hours[joint] = h;
            needs[joint] = need;
            bestKnown = false;
            return was;
        }

        private boolean bestKnown;
        private int bestClamps;
        private int bestEnd;
        private List<Integer> bestOrder;
        private int[] bestStarts;

        private void findBest() {
            if (bestKnown && bestClamps == settings[4]) {
                return;
            }
            bestKnown = true;
            bestClamps = settings[4];
            bestOrder = null;
            bestEnd = Integer.MAX_VALUE;
            List<Integer> rest = new ArrayList<>();
            for (int j = 0; j < 7; j++) {
                if (hours[j] > 0) {
                    rest.add(j);
                }
            }
            permute(new ArrayList<>(), rest);
        }

        private void permute(List<Integer> order, List<Integer> rest) {
            if (rest.isEmpty()) {
                weigh(order);
                return;
            }
            for (int j : rest) {
                List<Integer> longer = new ArrayList<>(order);
                longer.add(j);
                List<Integer> fewer = new ArrayList<>(rest);
                fewer.remove((Integer) j);
                permute(longer, fewer);
            }
        }

        // Hour by hour: the next JOINT is begun at the first hour at which nothing hinders it.
        private void weigh(List<Integer> order) {
            int[] starts = new int[7];
            int done = 0;
            int now = 0;
            int end = 0;
            for (int j : order) {
                if ((needs[j] & ~done) != 0) {
                    return;
                }
                while (hindered(j, done, starts, now)) {
                    now++;
                }
                starts[j] = now;
                done |= 1 << j;
                end = Math.max(end, now + hours[j]);
            }
            if (end < bestEnd) {
                bestEnd = end;
                bestOrder = order;
                bestStarts = starts;
            }
        }

        private boolean hindered(int j, int done, int[] starts, int now) {
            int curing = 0;
            for (int k = 0; k < 7; k++) {
                if ((done >> k & 1) == 1 && starts[k] + hours[k] > now) {
                    curing++;
                    if ((needs[j] >> k & 1) == 1) {
                        return true;
                    }
                }
            }
            return curing >= settings[4];
        }

        int best(int i) {
            findBest();
            if (bestOrder == null) {
                return -3;
            }
            return i == -1 ? bestEnd : in(i, 0, bestOrder.size() - 1) ? bestOrder.get(i) : -6;
        }

        int begun(int joint) {
            if (!in(joint, 0, 6) || hours[joint] == 0) {
                return -1;
            }
            findBest();
            return bestOrder == null ? -3 : bestStarts[joint];
        }

        int strip(int strength) {
            if (!in(strength, 0, 10000)) {
                return -2;
            }
            if (strengths.size() == 20) {
                return -4;
            }
            strengths.add(strength);
            barred.add(false);
            return strengths.size() - 1;
        }

        int bar(int strip, boolean is) {
            if (!in(strip, 0, strengths.size() - 1)) {
                return -1;
            }
            return barred.set(strip, is) ? 1 : 0;
        }

        private List<Integer> kept() {
            List<Integer> kept = new ArrayList<>();
            for (int i = 0; i < strengths.size(); i++) {
                if (!barred.get(i)) {
                    kept.add(strengths.get(i));
                }
            }
            return kept;
        }

        long strips(int what, int part) {
            if (!in(what, 0, 1) || !in(part, 0, 1)) {
                return GlueHouse.LOST - 2;
            }
            List<Integer> kept = kept();
            if (kept.isEmpty()) {
                return GlueHouse.LOST - 3;
            }
            Part mean = Part.ZERO;
            for (int x : kept) {
                mean = mean.plus(Part.of(x, kept.size()));
            }
            Part spread = Part.ZERO;
            for (int x : kept) {
                Part off = Part.of(x, 1).minus(mean);
                spread = spread.plus(off.times(off).times(Part.of(1, kept.size())));
            }
            return (what == 0 ? mean : spread).told(part);
        }

        int weak() {
            return (int) kept().stream().filter(x -> x < settings[5]).count();
        }

        long odd(int w, int part) {
            if (!in(w, 1, 19) || !in(part, 0, 1)) {
                return GlueHouse.LOST - 2;
            }
            List<Integer> kept = kept();
            if (kept.isEmpty()) {
                return GlueHouse.LOST - 3;
            }
            List<Integer> looked = kept.subList(0, Math.min(12, kept.size()));
            int weak = (int) looked.stream().filter(x -> x < settings[5]).count();
            BigInteger good = BigInteger.ZERO;
            for (int row = 0; row < 1 << looked.size(); row++) {
                int ones = Integer.bitCount(row);
                if (ones >= weak) {
                    good = good.add(BigInteger.valueOf(w).pow(ones).multiply(BigInteger.valueOf(20 - w).pow(looked.size() - ones)));
                }
            }
            return Part.cut(good, BigInteger.valueOf(20).pow(looked.size())).told(part);
        }

        int knock(int place, int sound) {
            if (!in(place, 0, 9)) {
                return -1;
            }
            if (!in(sound, -1, 9)) {
                return -2;
            }
            int was = sounds[place];
            sounds[place] = sound;
            return was == -1 ? -6 : was;
        }

        int sheet(int place, int sheet) {
            if (!in(place, 0, 9)) {
                return -1;
            }
            if (!in(sheet, 0, 3)) {
                return -2;
            }
            int was = sheets[place];
            sheets[place] = sheet;
            return was;
        }

        int table(int sheet, int gap, int sound) {
            if (!in(sheet, 0, 3) || !in(gap, 0, 3) || !in(sound, 0, 9)) {
                return -2;
            }
            int was = table[sheet][gap];
            table[sheet][gap] = sound;
            return was;
        }

        int fit(int place) {
            if (!in(place, 0, 9)) {
                return -1;
            }
            int bits = 0;
            for (int gap = 0; gap < 4; gap++) {
                if (sounds[place] == -1 || table[sheets[place]][gap] == sounds[place]) {
                    bits |= 1 << gap;
                }
            }
            return bits;
        }

        // Every row one by one, by choosing gap after gap.
        private int rows(int[] row, int place, int watched, TreeSet<Integer> seen) {
            if (place == 10) {
                seen.add(row[watched]);
                return 1;
            }
            int count = 0;
            for (int gap = 0; gap < 4; gap++) {
                boolean near = place == 0 || Math.abs(row[place - 1] - gap) <= settings[6];
                if (near && (sounds[place] == -1 || table[sheets[place]][gap] == sounds[place])) {
                    row[place] = gap;
                    count += rows(row, place + 1, watched, seen);
                }
            }
            return count;
        }

        int fits() {
            return rows(new int[10], 0, 0, new TreeSet<>());
        }

        int sure(int place) {
            if (!in(place, 0, 9)) {
                return -1;
            }
            TreeSet<Integer> seen = new TreeSet<>();
            rows(new int[10], 0, place, seen);
            return seen.size() == 1 ? seen.first() : -6;
        }

        int unseen(int sheet) {
            if (!in(sheet, 0, 3)) {
                return -2;
            }
            int[] t = table[sheet];
            int pairs = 0;
            for (int i = 0; i < 4; i++) {
                for (int j = 0; j < i; j++) {
                    pairs += t[i] == t[j] ? 1 : 0;
                }
            }
            return pairs;
        }

        int choice(int kind, int price, int holds, int shows) {
            if (!in(kind, 0, 3)) {
                return -1;
            }
            if (!in(price, 0, 1000) || !in(holds, 0, 10000) || !in(shows, 0, 10000)) {
                return -2;
            }
            if (choices.size() == 12) {
                return -4;
            }
            choices.add(new int[] {kind, price, holds, shows});
            return choices.size() - 1;
        }

        int cheapest(int load, int kind) {
            if (!in(kind, -1, 3)) {
                return -1;
            }
            if (!in(load, 0, 10000)) {
                return -2;
            }
            for (int price = 0; price <= 1000; price++) {
                for (int i = 0; i < choices.size(); i++) {
                    int[] c = choices.get(i);
                    int mostShown = c[2] - c[2] * settings[7] / 100;
                    if (c[1] == price && (kind == -1 || c[0] == kind) && c[2] >= load && c[3] <= mostShown) {
                        return i;
                    }
                }
            }
            return -6;
        }

        private static int strength(int base, int clean, int cure, int damp) {
            return base * clean / 100 * cure / 1000 * (1000 - damp) / 1000;
        }

        int led(int lap, int base, int clean, int load, int made, int what) {
            ModelLap l = lap(lap);
            if (l == null) {
                return -1;
            }
            if (!in(base, 0, 10000) || !in(clean, 0, 100) || !in(load, 0, 10000) || !in(made, 0, 10000) || !in(what, 0, 1)) {
                return -2;
            }
            int damp = Arrays.stream(l.cells).max().getAsInt();
            if (what == 0) {
                return strength(base, clean, l.cure, damp);
            }
            return (strength(base, clean, 1000, 0) < made ? 1 : 0)
                + (strength(base, 100, l.cure, 0) < made ? 2 : 0)
                + (strength(base, 100, 1000, damp) < made ? 4 : 0)
                + (load > made && base < load ? 8 : 0);
        }

        int told(int what) {
            if (in(what, 10, 17)) {
                return settings[what - 10];
            }
            int bits = 0;
            if (what == 1) {
                for (int i = 0; i < 6; i++) {
                    bits |= laps[i] == null ? 0 : 1 << i;
                }
                return bits;
            }
            if (what == 4) {
                for (int i = 0; i < 7; i++) {
                    bits |= hours[i] == 0 ? 0 : 1 << i;
                }
                return bits;
            }
            return what == 0 ? text.length() : what == 2 ? strengths.size() : what == 3 ? choices.size() : -2;
        }
    }
}
