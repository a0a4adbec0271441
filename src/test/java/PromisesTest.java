/** Each promise by hand: ordinary answers, the edges that the document names, wrong arguments in their order. */
public final class PromisesTest {
    private static final int NONE = -6;
    private static final int UNKNOWN = -1;
    private static final int OUTSIDE = -2;
    private static final int STATE = -3;
    private static final int FULL = -4;
    private static final int NO = -5;
    private static final long LOST = -1000000000000000000L;

    private static int wrong;
    private static int checked;

    private static void due(int promise, String what, long want, long got) {
        checked++;
        if (got != want) {
            wrong++;
            System.out.println("promise " + promise + ": " + what + " answered " + got + ", due is " + want);
        }
    }

    private static void say(GlueHouse x, String text) {
        x.wipe();
        for (int i = 0; i < text.length(); i++) {
            x.say(text.charAt(i));
        }
    }

    private static GlueHouse with(String text) {
        GlueHouse x = new GlueHouse();
        say(x, text);
        x.read(0);
        return x;
    }

    public static void main(String[] args) {
        newObject();
        signs();
        faults();
        reading();
        spots();
        pulls();
        backs();
        firsts();
        breaks();
        wear();
        settings();
        damp();
        cure();
        joints();
        strips();
        odds();
        knocks();
        rows();
        choices();
        causes();
        told();
        System.out.println(checked + " answers looked at, " + wrong + " are not as due");
        if (wrong != 0) {
            System.exit(1);
        }
    }

    private static void newObject() {
        GlueHouse x = new GlueHouse();
        int[] settings = {100000, 20, 0, 20, 1, 1000, 3, 20};
        for (int i = 0; i < settings.length; i++) {
            due(1, "told of setting " + i, settings[i], x.told(10 + i));
        }
        for (int what = 0; what <= 4; what++) {
            due(1, "told " + what, 0, x.told(what));
        }
        for (int lap = 0; lap < 6; lap++) {
            due(1, "no lap", UNKNOWN, x.of(lap, 0));
        }
        for (int ten = 0; ten < 5; ten++) {
            due(1, "rate", 0, x.rate(ten, 0));
        }
        for (int place = 0; place < 10; place++) {
            due(1, "fit", 15, x.fit(place));
            due(1, "sheet", 0, x.sheet(place, 0));
            due(1, "knock", NONE, x.knock(place, -1));
        }
        for (int sheet = 0; sheet < 4; sheet++) {
            due(1, "unseen", 6, x.unseen(sheet));
        }
        due(1, "fits", 1048576, x.fits());
        due(1, "best", 0, x.best(-1));
        due(1, "weak", 0, x.weak());
        due(1, "cheapest", NONE, x.cheapest(0, -1));
    }

    private static void signs() {
        GlueHouse x = new GlueHouse();
        due(2, "below the least sign", OUTSIDE, x.say(32));
        due(2, "above the greatest sign", OUTSIDE, x.say(127));
        due(2, "wild", OUTSIDE, x.say(Integer.MIN_VALUE));
        for (int i = 1; i <= 40; i++) {
            due(2, "sign", i, x.say(i % 2 == 0 ? 33 : 126));
        }
        due(2, "41st", FULL, x.say(50));
        due(2, "OUTSIDE ahead of FULL", OUTSIDE, x.say(0));
        due(2, "changed nothing", 40, x.told(0));
        due(3, "wipe", 40, x.wipe());
        due(3, "wipe again", 0, x.wipe());
        due(3, "none are left", 0, x.told(0));
        due(3, "room again", 1, x.say(50));
    }

    private static void faults() {
        Object[][] rows = {
            {"", 0}, {"0", NONE}, {"5", NONE}, {"6", 0}, {"/", 0}, {"1/", 2}, {"1/0", 3}, {"1/03", 4}, {"1/03/", 5},
            {"1/03/5", NONE}, {"1/30/6", 5}, {"1/40/5", 2}, {"1/04/5", 3}, {"10", 1}, {"1/0/5", 3}, {"1/00/5/", 7},
            {"1//0", 2}, {"5/33/5/33/5/33/5/33/5", NONE}, {"5/33/5/33/5/33/5/33/5/", 21}, {"5/33/5/33/5/33/5/33/51", 21},
            {"5/33/5/33/5/33/5/33", 19}, {"5/33/5/33/5/33/5/33/", 20}, {"5/33/5/33/5/33/5/33/6", 20}, {"a", 0}, {"1!", 1},
            {"5/33/5/33/5/33/5/33/5/33/5/33/5/33/5/33/", 21}, {"9/99/9", 0}};
        GlueHouse x = new GlueHouse();
        for (Object[] row : rows) {
            say(x, (String) row[0]);
            due(4, "fault of " + row[0], (int) row[1], x.fault());
        }
    }

    private static void reading() {
        GlueHouse x = new GlueHouse();
        due(5, "no text", NO, x.read(0));
        due(5, "UNKNOWN ahead of NO", UNKNOWN, x.read(6));
        due(5, "UNKNOWN", UNKNOWN, x.read(-1));
        say(x, "1/2");
        due(5, "NO", NO, x.read(5));
        due(5, "changed nothing", 3, x.told(0));
        say(x, "2/13/0/20/4");
        due(5, "three spots", 3, x.read(5));
        due(5, "signs are empty", 0, x.told(0));
        due(5, "only that lap", 32, x.told(1));
        x.work(5, 0, 77);
        x.damp(5, 3, 9);
        x.rate(2, 7);
        x.rounds(5, 10, 1);
        x.hours(5, 1);
        say(x, "3");
        due(5, "read over it", 1, x.read(5));
        due(5, "WORK anew", 10, x.spot(5, 0, 3));
        due(5, "WEAR anew", 0, x.spot(5, 0, 4));
        due(5, "CURE anew", 0, x.of(5, 10));
        due(5, "DAMP anew", 0, x.of(5, 3));
        due(5, "no second spot", UNKNOWN, x.spot(5, 1, 0));
        due(5, "one spot holds", 1, x.of(5, 12));
        due(5, "no piece is left of the old text", 1, x.give(5, 0));
        due(5, "GIVE", 3, x.give(5, 1));
    }

    private static void spots() {
        GlueHouse x = with("2/13/0/20/4");
        int[][] rows = {{2, 1, 3, 10, 0}, {0, 2, 0, 10, 0}, {4, NONE, NONE, 10, 0}};
        for (int i = 0; i < 3; i++) {
            for (int what = 0; what < 5; what++) {
                due(6, "spot " + i + " " + what, rows[i][what], x.spot(0, i, what));
            }
        }
        due(6, "UNKNOWN lap", UNKNOWN, x.spot(1, 0, 0));
        due(6, "UNKNOWN spot", UNKNOWN, x.spot(0, 3, 9));
        due(6, "UNKNOWN spot", UNKNOWN, x.spot(0, -1, 0));
        due(6, "OUTSIDE", OUTSIDE, x.spot(0, 2, 5));
        due(6, "OUTSIDE", OUTSIDE, x.spot(0, 2, -1));
        due(7, "glue", 2, x.glue(0, 0, 5));
        due(7, "glue again", 5, x.glue(0, 0, 0));
        due(7, "OUTSIDE", OUTSIDE, x.glue(0, 0, 6));
        due(7, "OUTSIDE", OUTSIDE, x.glue(0, 0, -1));
        due(7, "UNKNOWN first", UNKNOWN, x.glue(0, 3, 6));
        due(7, "UNKNOWN lap", UNKNOWN, x.glue(-1, 0, 1));
        due(7, "kept", 0, x.spot(0, 0, 0));
        due(8, "work", 10, x.work(0, 2, 1000));
        due(8, "work again", 1000, x.work(0, 2, 0));
        due(8, "OUTSIDE", OUTSIDE, x.work(0, 2, 1001));
        due(8, "OUTSIDE", OUTSIDE, x.work(0, 2, -1));
        due(8, "UNKNOWN first", UNKNOWN, x.work(6, 0, -1));
        due(8, "kept", 0, x.spot(0, 2, 3));
    }

    private static void fraction(int promise, String what, long upper, long lower, long gotUpper, long gotLower) {
        due(promise, what + ", upper", upper, gotUpper);
        due(promise, what + ", lower", lower, gotLower);
    }

    private static void pulls() {
        // Two even spots, pieces that give way by one each: each carries a half, and the upper piece pulls a half.
        GlueHouse x = with("1/11/1");
        for (int i = 0; i < 2; i++) {
            fraction(9, "SLIP", 1, 2, x.pull(0, i, 0, 0), x.pull(0, i, 0, 1));
            fraction(9, "SHEAR", 1, 2, x.pull(0, i, 1, 0), x.pull(0, i, 1, 1));
        }
        fraction(9, "PULL", 1, 2, x.pull(0, 0, 2, 0), x.pull(0, 0, 2, 1));
        fraction(9, "PULL of the last", 0, 1, x.pull(0, 1, 2, 0), x.pull(0, 1, 2, 1));
        fraction(10, "GIVE", 1, 1, x.give(0, 0), x.give(0, 1));
        due(11, "of several the first", 0, x.hardest(0));

        x = with("0/30/2");
        fraction(9, "SLIP of a spot that is off", 7, 2, x.pull(0, 0, 0, 0), x.pull(0, 0, 0, 1));
        fraction(9, "SHEAR of a spot that is off", 0, 1, x.pull(0, 0, 1, 0), x.pull(0, 0, 1, 1));
        fraction(10, "GIVE", 7, 2, x.give(0, 0), x.give(0, 1));
        due(11, "the one that holds", 1, x.hardest(0));

        // A middle spot can be pulled the other way, and that counts by size alone.
        x = with("3/21/1/03/0/30/5");
        fraction(9, "SHEAR below 0", -26, 453, x.pull(0, 1, 1, 0), x.pull(0, 1, 1, 1));
        x = with("5/00/5/30/5/03/5/00/5");
        fraction(9, "SHEAR of the first", 16, 35, x.pull(0, 0, 1, 0), x.pull(0, 0, 1, 1));
        fraction(9, "SHEAR below 0, the greatest by size", -29, 35, x.pull(0, 2, 1, 0), x.pull(0, 2, 1, 1));
        due(11, "by size", 2, x.hardest(0));

        due(9, "UNKNOWN lap", LOST - 1, x.pull(1, 0, 0, 0));
        due(9, "UNKNOWN spot", LOST - 1, x.pull(0, 5, 9, 9));
        due(9, "OUTSIDE what", LOST - 2, x.pull(0, 0, 3, 0));
        due(9, "OUTSIDE what", LOST - 2, x.pull(0, 0, -1, 0));
        due(9, "OUTSIDE part", LOST - 2, x.pull(0, 0, 0, 2));
        due(9, "OUTSIDE part", LOST - 2, x.pull(0, 0, 0, -1));
        due(10, "UNKNOWN lap", LOST - 1, x.give(6, 7));
        due(10, "OUTSIDE part", LOST - 2, x.give(0, 2));
        due(11, "UNKNOWN", UNKNOWN, x.hardest(1));
        x = with("0/11/0");
        due(9, "LOOSE", LOST - 3, x.pull(0, 0, 0, 0));
        due(9, "OUTSIDE ahead of STATE", LOST - 2, x.pull(0, 0, 0, 2));
        due(10, "LOOSE", LOST - 3, x.give(0, 1));
        due(10, "OUTSIDE ahead of STATE", LOST - 2, x.give(0, -1));
        due(11, "LOOSE", STATE, x.hardest(0));
    }

    private static void backs() {
        // Without one of two even spots on stiff sheets GIVE goes from a half to one.
        GlueHouse x = with("1/00/1");
        fraction(12, "back", 1, 4, x.back(0, 0, 1, 0), x.back(0, 0, 1, 1));
        fraction(12, "back by 100", 2500, 1, x.back(0, 1, 100, 0), x.back(0, 1, 100, 1));
        due(12, "OUTSIDE p", LOST - 2, x.back(0, 0, 0, 0));
        due(12, "OUTSIDE p", LOST - 2, x.back(0, 0, 101, 0));
        due(12, "OUTSIDE part", LOST - 2, x.back(0, 0, 1, 2));
        due(12, "UNKNOWN spot", LOST - 1, x.back(0, 2, 0, 0));
        due(12, "UNKNOWN lap", LOST - 1, x.back(3, 0, 1, 0));
        x.glue(0, 0, 0);
        fraction(12, "the last one that holds", 9, 2, x.back(0, 1, 3, 0), x.back(0, 1, 3, 1));
        due(12, "it is off", LOST - 3, x.back(0, 0, 1, 0));
        due(12, "OUTSIDE ahead of STATE", LOST - 2, x.back(0, 0, 101, 0));

        x = with("1/00/1");
        x.work(0, 0, 9);
        x.work(0, 1, 10);
        due(13, "just its WORK, and less than it", 1, x.spreads(0, 6));
        due(13, "none", 0, x.spreads(0, 5));
        due(13, "both", 3, x.spreads(0, 7));
        due(13, "changes nothing", 2, x.of(0, 12));
        due(13, "OUTSIDE", OUTSIDE, x.spreads(0, 0));
        due(13, "OUTSIDE", OUTSIDE, x.spreads(0, 101));
        due(13, "UNKNOWN first", UNKNOWN, x.spreads(1, 0));
        x.glue(0, 0, 0);
        x.glue(0, 1, 0);
        due(13, "OUTSIDE ahead of STATE", OUTSIDE, x.spreads(0, 0));
        due(13, "LOOSE", STATE, x.spreads(0, 1));
    }

    private static void firsts() {
        // GIVE goes from 1/25 to 1/20: back is 50 by a pull of 100.
        GlueHouse x = with("5/00/5/00/5/00/5/00/5");
        for (int i = 0; i < 5; i++) {
            x.work(0, i, 51);
        }
        due(14, "none up to 100", NONE, x.first(0));
        x.work(0, 3, 50);
        due(14, "just by 100", 100, x.first(0));
        x.work(0, 4, 0);
        due(14, "no WORK", 1, x.first(0));
        x.glue(0, 4, 0);
        // Now GIVE goes from 1/20 to 1/15, and 78 times 78 by 120 is the first above 50.
        due(14, "one that is off does not spread", 78, x.first(0));
        due(13, "one that is off does not spread", 8, x.spreads(0, 78));
        x = with("1/00/1");
        x.work(0, 1, 1000);
        due(14, "the first spot alone", 7, x.first(0));
        due(14, "UNKNOWN", UNKNOWN, x.first(1));
        due(14, "UNKNOWN", UNKNOWN, x.first(-1));
        x = with("0");
        due(14, "LOOSE", STATE, x.first(0));
    }

    private static void breaks() {
        GlueHouse x = with("1/00/1");
        x.work(0, 0, 9);
        x.work(0, 1, 1000);
        due(15, "none goes", 0, x.snap(0, 5));
        due(15, "one goes, it stops", 1, x.snap(0, 6));
        due(15, "which one", 0, x.spot(0, 0, 0));
        due(15, "the other holds", 1, x.of(0, 12));
        due(15, "none more", 0, x.snap(0, 6));
        due(15, "the last one runs", 1 - 100, x.snap(0, 100));
        due(15, "LOOSE", STATE, x.snap(0, 100));
        due(15, "OUTSIDE ahead of STATE", OUTSIDE, x.snap(0, 101));
        due(15, "OUTSIDE", OUTSIDE, x.snap(0, 0));
        due(15, "UNKNOWN first", UNKNOWN, x.snap(1, 0));
        // Both would go by 7; the lowest goes, and then the other one has more to give back: it runs.
        x = with("1/00/1");
        due(15, "runs through", 2 - 100, x.snap(0, 7));
        // The lowest number goes first, though the other gives back more: what is left then holds.
        x = with("1/00/2");
        x.work(0, 0, 1);
        x.work(0, 1, 40);
        due(15, "both spread", 3, x.spreads(0, 11));
        due(15, "the lowest goes, it stops", 1, x.snap(0, 11));
        due(15, "the second holds", 2, x.spot(0, 1, 0));
    }

    private static void wear() {
        GlueHouse x = with("1/00/2");
        due(16, "holds", NONE, x.rounds(0, 1, 1));
        due(16, "WEAR is cut", 333, x.spot(0, 0, 4));
        due(16, "WEAR is cut", 666, x.spot(0, 1, 4));
        due(16, "OUTSIDE n", OUTSIDE, x.rounds(0, 1, 0));
        due(16, "OUTSIDE n", OUTSIDE, x.rounds(0, 1, 1001));
        due(16, "OUTSIDE p", OUTSIDE, x.rounds(0, 101, 1));
        due(16, "OUTSIDE p", OUTSIDE, x.rounds(0, 0, 1));
        due(16, "UNKNOWN first", UNKNOWN, x.rounds(5, 0, 0));
        x.set(0, 1332);
        due(16, "the second goes at LASTS itself", NONE, x.rounds(0, 1, 1));
        due(16, "one holds", 1, x.of(0, 12));
        due(16, "and takes all after that", 1, x.rounds(0, 1, 1000));
        due(16, "WEAR of the first", 1666, x.spot(0, 0, 4));
        due(16, "WEAR of one that is off stays", 1332, x.spot(0, 1, 4));
        due(16, "LOOSE", STATE, x.rounds(0, 1, 1));
        due(16, "OUTSIDE ahead of STATE", OUTSIDE, x.rounds(0, 1, 0));
        x.set(0, 1000000);
        x.glue(0, 0, 1);
        due(16, "after so many", 999, x.rounds(0, 1, 1000));
        due(16, "WEAR went on", 1666 + 999000, x.spot(0, 0, 4));
        // WEAR counts by size.
        x = with("3/21/1/03/0/30/5");
        x.rounds(0, 100, 1);
        due(16, "by size", 5739, x.spot(0, 1, 4));
        due(16, "one that is off has none", 0, x.spot(0, 2, 4));
        // A LASTS that was set lower takes off, at the next ROUND, also those that reached it long ago.
        x = with("5/00/5");
        x.rounds(0, 1, 4);
        x.set(0, 1);
        due(16, "both at once", 1, x.rounds(0, 1, 9));
    }

    private static void settings() {
        GlueHouse x = new GlueHouse();
        int[][] rows = {{100000, 1, 1000000}, {20, 0, 50}, {0, 0, 1000}, {20, 0, 49}, {1, 1, 3}, {1000, 0, 10000}, {3, 0, 3}, {20, 0, 100}};
        for (int which = 0; which < rows.length; which++) {
            int[] row = rows[which];
            due(17, "below " + which, OUTSIDE, x.set(which, row[1] - 1));
            due(17, "above " + which, OUTSIDE, x.set(which, row[2] + 1));
            due(17, "first " + which, row[0], x.set(which, row[1]));
            due(17, "least " + which, row[1], x.set(which, row[2]));
            due(17, "most " + which, row[2], x.told(10 + which));
        }
        due(17, "OUTSIDE", OUTSIDE, x.set(8, 1));
        due(17, "OUTSIDE", OUTSIDE, x.set(-1, 1));
    }

    private static void damp() {
        GlueHouse x = with("1");
        due(18, "damp", 0, x.damp(0, 9, 1000));
        due(18, "damp again", 1000, x.damp(0, 9, 0));
        due(18, "OUTSIDE cell", OUTSIDE, x.damp(0, 10, 0));
        due(18, "OUTSIDE cell", OUTSIDE, x.damp(0, -1, 0));
        due(18, "OUTSIDE", OUTSIDE, x.damp(0, 0, 1001));
        due(18, "OUTSIDE", OUTSIDE, x.damp(0, 0, -1));
        due(18, "UNKNOWN first", UNKNOWN, x.damp(1, 10, 0));
        // By a SHARE of 20: 7 goes to 7 - 2 (2.8 cut), and 1 (1.4 cut) comes to each side.
        x.damp(0, 5, 7);
        x.hours(0, 1);
        int[] after = {0, 0, 0, 0, 1, 5, 1, 0, 0, 0};
        for (int cell = 0; cell < 10; cell++) {
            due(19, "cell " + cell, after[cell], x.of(0, cell));
        }
        x.set(2, 1000);
        x.set(1, 50);
        x = with("1");
        x.set(2, 1000);
        x.set(1, 50);
        x.hours(0, 2);
        int[] soaked = {500, 250, 0, 0, 0, 0, 0, 0, 250, 500};
        for (int cell = 0; cell < 10; cell++) {
            due(19, "all at once, cell " + cell, soaked[cell], x.of(0, cell));
        }
        x.set(1, 0);
        x.hours(0, 1000);
        due(19, "no SHARE", 500, x.of(0, 0));
    }

    private static void cure() {
        GlueHouse x = with("1/00/0");
        due(21, "rate", 0, x.rate(4, 100));
        due(21, "rate again", 100, x.rate(4, 99));
        due(21, "OUTSIDE", OUTSIDE, x.rate(5, 0));
        due(21, "OUTSIDE", OUTSIDE, x.rate(-1, 0));
        due(21, "OUTSIDE", OUTSIDE, x.rate(0, 101));
        due(21, "OUTSIDE", OUTSIDE, x.rate(0, -1));
        due(19, "no rate at 20", 0, x.hours(0, 1));
        x.rate(0, 3);
        x.set(3, 9);
        due(19, "the ten of 9", 3, x.hours(0, 1));
        say(x, "1/00/0");
        x.read(0);
        x.set(3, 49);
        due(19, "the ten of 49", 99, x.hours(0, 1));
        x.set(3, 39);
        due(19, "the ten of 39", 99, x.hours(0, 1));
        x.set(3, 40);
        due(19, "ten hours", 990, x.hours(0, 9));
        due(19, "1000 at most", 1000, x.hours(0, 1000));
        due(19, "OUTSIDE", OUTSIDE, x.hours(0, 0));
        due(19, "OUTSIDE", OUTSIDE, x.hours(0, 1001));
        due(19, "UNKNOWN first", UNKNOWN, x.hours(1, 0));
        due(20, "CURE", 1000, x.of(0, 10));
        due(20, "SPOTS", 2, x.of(0, 11));
        due(20, "not off", 1, x.of(0, 12));
        due(20, "OUTSIDE", OUTSIDE, x.of(0, 13));
        due(20, "OUTSIDE", OUTSIDE, x.of(0, -1));
        due(20, "UNKNOWN first", UNKNOWN, x.of(1, 13));
        say(x, "1");
        x.read(3);
        due(20, "each lap has its own", 0, x.of(3, 10));
    }

    private static void order(GlueHouse x, int end, int... joints) {
        due(23, "END", end, x.best(-1));
        for (int i = 0; i < joints.length; i++) {
            due(23, "order at " + i, joints[i], x.best(i));
        }
        due(23, "behind the last", NONE, x.best(joints.length));
    }

    private static void joints() {
        GlueHouse x = new GlueHouse();
        order(x, 0);
        due(23, "below", NONE, x.best(-2));
        due(23, "wild", NONE, x.best(Integer.MAX_VALUE));
        due(22, "joint", 0, x.joint(6, 100, 0));
        due(22, "joint again", 100, x.joint(6, 1, 0));
        due(22, "UNKNOWN first", UNKNOWN, x.joint(7, 101, 128));
        due(22, "UNKNOWN", UNKNOWN, x.joint(-1, 1, 0));
        due(22, "OUTSIDE hours", OUTSIDE, x.joint(0, 101, 0));
        due(22, "OUTSIDE hours", OUTSIDE, x.joint(0, -1, 0));
        due(22, "OUTSIDE needs", OUTSIDE, x.joint(0, 1, 128));
        due(22, "OUTSIDE needs", OUTSIDE, x.joint(0, 0, -1));
        due(22, "kept", 64, x.told(4));
        order(x, 1, 6);
        due(24, "begun", 0, x.begun(6));
        due(24, "none there", UNKNOWN, x.begun(0));
        due(24, "UNKNOWN", UNKNOWN, x.begun(7));
        due(24, "UNKNOWN", UNKNOWN, x.begun(-1));
        x.joint(0, 2, 64);
        order(x, 3, 6, 0);
        due(24, "after what it needs", 1, x.begun(0));
        x.joint(6, 1, 1);
        due(23, "a ring", STATE, x.best(-1));
        due(23, "STATE ahead of NONE", STATE, x.best(99));
        due(24, "a ring", STATE, x.begun(0));
        due(24, "UNKNOWN ahead of STATE", UNKNOWN, x.begun(3));
        due(22, "gone", 1, x.joint(6, 0, 0));
        due(23, "leans on one that is not", STATE, x.best(0));
        x.joint(0, 2, 0);
        order(x, 2, 0);

        // Long ones first is best with two clamps; the plain order by numbers ends later.
        x = new GlueHouse();
        x.joint(0, 1, 0);
        x.joint(1, 1, 0);
        x.joint(2, 2, 0);
        order(x, 4, 0, 1, 2);
        x.set(4, 2);
        order(x, 2, 0, 2, 1);
        due(24, "begun", 1, x.begun(1));
        x.set(4, 3);
        order(x, 2, 0, 1, 2);
        due(24, "begun", 0, x.begun(2));
        // One that waits for its need holds those behind it up, free clamp or not.
        x = new GlueHouse();
        x.set(4, 2);
        x.joint(0, 5, 0);
        x.joint(1, 5, 1);
        x.joint(2, 6, 0);
        order(x, 10, 0, 2, 1);
        due(24, "at the side", 0, x.begun(2));
        due(24, "as its need is cured", 5, x.begun(1));
        // 3 needs 0 and 2, and waits for the later of them, though a clamp is free.
        x = new GlueHouse();
        x.set(4, 3);
        x.joint(0, 4, 0);
        x.joint(2, 9, 0);
        x.joint(3, 1, 5);
        order(x, 10, 0, 2, 3);
        due(24, "as both are cured", 9, x.begun(3));
        x.joint(3, 1, 1);
        order(x, 9, 0, 2, 3);
        due(24, "as the one is cured", 4, x.begun(3));
        x = new GlueHouse();
        for (int j = 0; j < 7; j++) {
            x.joint(j, 100, 0);
        }
        order(x, 700, 0, 1, 2, 3, 4, 5, 6);
        x.set(4, 3);
        order(x, 300, 0, 1, 2, 3, 4, 5, 6);
        due(24, "the last", 200, x.begun(6));
    }

    private static void strips() {
        GlueHouse x = new GlueHouse();
        due(27, "none", LOST - 3, x.strips(0, 0));
        due(27, "OUTSIDE ahead of STATE", LOST - 2, x.strips(2, 0));
        due(27, "OUTSIDE", LOST - 2, x.strips(-1, 0));
        due(27, "OUTSIDE", LOST - 2, x.strips(0, 2));
        due(25, "OUTSIDE", OUTSIDE, x.strip(-1));
        due(25, "OUTSIDE", OUTSIDE, x.strip(10001));
        due(25, "first", 0, x.strip(10000));
        fraction(27, "MEAN of one", 10000, 1, x.strips(0, 0), x.strips(0, 1));
        fraction(27, "SPREAD of one", 0, 1, x.strips(1, 0), x.strips(1, 1));
        due(25, "second", 1, x.strip(0));
        due(25, "third", 2, x.strip(0));
        fraction(27, "MEAN", 10000, 3, x.strips(0, 0), x.strips(0, 1));
        fraction(27, "SPREAD", 200000000, 9, x.strips(1, 0), x.strips(1, 1));
        due(28, "weak", 2, x.weak());
        due(26, "bar", 0, x.bar(2, true));
        due(26, "bar again", 1, x.bar(2, true));
        due(26, "UNKNOWN", UNKNOWN, x.bar(3, true));
        due(26, "UNKNOWN", UNKNOWN, x.bar(-1, true));
        fraction(27, "MEAN of kept ones", 5000, 1, x.strips(0, 0), x.strips(0, 1));
        due(28, "weak kept ones", 1, x.weak());
        due(26, "kept again", 1, x.bar(2, false));
        due(26, "was kept", 0, x.bar(2, false));
        x.set(5, 0);
        due(28, "none is below 0", 0, x.weak());
        x.set(5, 10000);
        due(28, "LINE itself is not weak", 2, x.weak());
        for (int i = 3; i < 20; i++) {
            due(25, "strip", i, x.strip(i));
        }
        due(25, "FULL", FULL, x.strip(5));
        due(25, "OUTSIDE ahead of FULL", OUTSIDE, x.strip(-5));
        due(25, "20 are there", 20, x.told(2));
        for (int i = 0; i < 20; i++) {
            x.bar(i, true);
        }
        due(27, "all barred", LOST - 3, x.strips(1, 1));
        due(28, "all barred", 0, x.weak());
    }

    private static void odds() {
        GlueHouse x = new GlueHouse();
        due(29, "none", LOST - 3, x.odd(1, 0));
        due(29, "OUTSIDE ahead of STATE", LOST - 2, x.odd(0, 0));
        due(29, "OUTSIDE", LOST - 2, x.odd(20, 0));
        due(29, "OUTSIDE", LOST - 2, x.odd(1, 2));
        x.strip(999);
        fraction(29, "one weak", 1, 20, x.odd(1, 0), x.odd(1, 1));
        x.strip(1000);
        fraction(29, "one of two", 39, 400, x.odd(1, 0), x.odd(1, 1));
        x.bar(0, true);
        fraction(29, "none weak", 1, 1, x.odd(19, 0), x.odd(19, 1));
        x.bar(0, false);
        x.bar(1, true);
        for (int i = 0; i < 11; i++) {
            x.strip(0);
        }
        fraction(29, "all twelve", 1, 4096000000000000L, x.odd(1, 0), x.odd(1, 1));
        fraction(29, "all twelve", 2213314919066161L, 4096000000000000L, x.odd(19, 0), x.odd(19, 1));
        x.strip(5000);
        fraction(29, "a 13th kept one is not looked at", 1, 4096, x.odd(10, 0), x.odd(10, 1));
        x.bar(0, true);
        fraction(29, "now it is the 12th", 13, 4096, x.odd(10, 0), x.odd(10, 1));
    }

    private static void knocks() {
        GlueHouse x = new GlueHouse();
        due(30, "knock", NONE, x.knock(9, 9));
        due(30, "knock again", 9, x.knock(9, 0));
        due(30, "and none", 0, x.knock(9, -1));
        due(30, "none again", NONE, x.knock(9, -1));
        due(30, "OUTSIDE", OUTSIDE, x.knock(0, 10));
        due(30, "OUTSIDE", OUTSIDE, x.knock(0, -2));
        due(30, "UNKNOWN first", UNKNOWN, x.knock(10, 10));
        due(30, "UNKNOWN", UNKNOWN, x.knock(-1, 0));
        due(31, "sheet", 0, x.sheet(0, 3));
        due(31, "sheet again", 3, x.sheet(0, 1));
        due(31, "OUTSIDE", OUTSIDE, x.sheet(0, 4));
        due(31, "OUTSIDE", OUTSIDE, x.sheet(0, -1));
        due(31, "UNKNOWN first", UNKNOWN, x.sheet(10, 4));
        due(31, "UNKNOWN", UNKNOWN, x.sheet(-1, 0));
        due(32, "table", 0, x.table(1, 3, 9));
        due(32, "table again", 9, x.table(1, 3, 8));
        int[][] outside = {{4, 0, 0}, {-1, 0, 0}, {0, 4, 0}, {0, -1, 0}, {0, 0, 10}, {0, 0, -1}};
        for (int[] row : outside) {
            due(32, "OUTSIDE", OUTSIDE, x.table(row[0], row[1], row[2]));
        }
        x.knock(0, 8);
        due(33, "just one", 8, x.fit(0));
        x.knock(0, 0);
        due(33, "the others", 7, x.fit(0));
        x.knock(0, 5);
        due(33, "none", 0, x.fit(0));
        due(33, "no sound", 15, x.fit(1));
        due(33, "UNKNOWN", UNKNOWN, x.fit(10));
        due(33, "UNKNOWN", UNKNOWN, x.fit(-1));
        due(36, "three alike", 3, x.unseen(1));
        x.table(1, 0, 8);
        due(36, "two and two", 2, x.unseen(1));
        x.table(1, 0, 1);
        x.table(1, 1, 2);
        due(36, "none alike", 0, x.unseen(1));
        due(36, "another sheet", 6, x.unseen(0));
        due(32, "the last sheet", 0, x.table(3, 0, 6));
        due(32, "the least sound", 6, x.table(3, 0, 0));
        due(36, "OUTSIDE", OUTSIDE, x.unseen(4));
        due(36, "OUTSIDE", OUTSIDE, x.unseen(-1));
    }

    private static void rows() {
        GlueHouse x = new GlueHouse();
        x.set(6, 0);
        due(34, "all places alike", 4, x.fits());
        due(35, "not just one", NONE, x.sure(0));
        x.table(0, 2, 7);
        x.knock(9, 7);
        due(34, "one row", 1, x.fits());
        due(35, "known from the other end", 2, x.sure(0));
        due(35, "its own", 2, x.sure(9));
        x.set(6, 1);
        due(35, "not sure any more", NONE, x.sure(8));
        x.set(6, 3);
        due(34, "free but one", 262144, x.fits());
        due(35, "UNKNOWN", UNKNOWN, x.sure(10));
        due(35, "UNKNOWN", UNKNOWN, x.sure(-1));
        // A gap of 0 and one of 3 with two places between them: one step each, so all is known.
        x = new GlueHouse();
        x.table(0, 1, 1);
        x.table(0, 2, 2);
        x.table(0, 3, 3);
        x.knock(2, 0);
        x.knock(5, 3);
        x.set(6, 1);
        due(35, "between", 1, x.sure(3));
        due(35, "between", 2, x.sure(4));
        x.knock(4, 0);
        due(34, "no row", 0, x.fits());
        due(35, "no row, so none is sure", NONE, x.sure(2));
        due(33, "though it fits alone", 1, x.fit(2));
        x.set(6, 3);
        due(35, "sure again", 0, x.sure(2));
        due(34, "rows", 16384, x.fits());
    }

    private static void choices() {
        GlueHouse x = new GlueHouse();
        due(37, "UNKNOWN first", UNKNOWN, x.choice(4, -1, 0, 0));
        due(37, "UNKNOWN", UNKNOWN, x.choice(-1, 0, 0, 0));
        int[][] outside = {{-1, 0, 0}, {1001, 0, 0}, {0, -1, 0}, {0, 10001, 0}, {0, 0, -1}, {0, 0, 10001}};
        for (int[] row : outside) {
            due(37, "OUTSIDE", OUTSIDE, x.choice(0, row[0], row[1], row[2]));
        }
        due(37, "first", 0, x.choice(3, 1000, 10000, 8000));
        due(38, "the dearest too", 0, x.cheapest(10000, -1));
        due(38, "of its kind", 0, x.cheapest(0, 3));
        due(38, "of another", NONE, x.cheapest(0, 0));
        x.set(7, 21);
        due(38, "warns too late", NONE, x.cheapest(0, -1));
        x.set(7, 20);
        due(38, "UNKNOWN first", UNKNOWN, x.cheapest(-1, 4));
        due(38, "UNKNOWN", UNKNOWN, x.cheapest(0, -2));
        due(38, "OUTSIDE", OUTSIDE, x.cheapest(-1, 0));
        due(38, "OUTSIDE", OUTSIDE, x.cheapest(10001, -1));
        due(37, "second", 1, x.choice(0, 5, 99, 80));
        due(38, "the margin is cut: 19", 1, x.cheapest(99, -1));
        due(38, "holds too little", 0, x.cheapest(100, -1));
        due(37, "third", 2, x.choice(1, 5, 200, 0));
        due(38, "of several the first", 1, x.cheapest(50, -1));
        due(38, "of a kind", 2, x.cheapest(50, 1));
        due(37, "fourth", 3, x.choice(1, 4, 200, 300));
        due(38, "shows behind what it holds", 2, x.cheapest(50, 1));
        x.set(7, 0);
        due(38, "even without a margin", 2, x.cheapest(50, 1));
        for (int i = 4; i < 12; i++) {
            due(37, "choice", i, x.choice(2, 0, 0, 0));
        }
        due(37, "FULL", FULL, x.choice(0, 0, 0, 0));
        due(37, "OUTSIDE ahead of FULL", OUTSIDE, x.choice(0, 1001, 0, 0));
        due(37, "UNKNOWN ahead of FULL", UNKNOWN, x.choice(4, 0, 0, 0));
        due(38, "nothing holds nothing", 4, x.cheapest(0, 2));
    }

    private static void causes() {
        GlueHouse x = with("1");
        due(39, "UNKNOWN first", UNKNOWN, x.led(1, -1, 0, 0, 0, 0));
        int[][] outside = {{-1, 0, 0, 0, 0}, {10001, 0, 0, 0, 0}, {0, -1, 0, 0, 0}, {0, 101, 0, 0, 0}, {0, 0, -1, 0, 0},
            {0, 0, 10001, 0, 0}, {0, 0, 0, -1, 0}, {0, 0, 0, 10001, 0}, {0, 0, 0, 0, 2}, {0, 0, 0, 0, -1}};
        for (int[] row : outside) {
            due(39, "OUTSIDE", OUTSIDE, x.led(0, row[0], row[1], row[2], row[3], row[4]));
        }
        due(39, "not cured", 0, x.led(0, 10000, 100, 0, 0, 0));
        due(39, "CURE alone", 2, x.led(0, 1000, 50, 500, 500, 1));
        due(39, "nothing was asked of it", 0, x.led(0, 0, 0, 0, 0, 1));
        x.rate(2, 50);
        x.hours(0, 19);
        x.damp(0, 7, 333);
        x.damp(0, 2, 332);
        // 999 by 77 of 100: 769; by 950 of 1000: 730; by 667 of 1000: 486.
        due(39, "cut each", 486, x.led(0, 999, 77, 0, 0, 0));
        due(39, "nothing alone", 0, x.led(0, 1000, 80, 600, 600, 1));
        due(39, "CLEAN alone", 1, x.led(0, 1000, 59, 600, 600, 1));
        due(39, "DAMP alone", 4, x.led(0, 1000, 70, 667, 668, 1));
        due(39, "just as strong is enough", 0, x.led(0, 1000, 70, 667, 667, 1));
        due(39, "LOAD alone", 8, x.led(0, 1000, 100, 1001, 600, 1));
        due(39, "a load that it bears at its best", 0, x.led(0, 1000, 100, 1000, 600, 1));
        due(39, "all", 15, x.led(0, 100, 100, 1000, 600, 1));
        due(39, "a load within what it was made for is no cause", 7, x.led(0, 100, 100, 600, 600, 1));
    }

    private static void told() {
        GlueHouse x = new GlueHouse();
        x.say(50);
        x.say(51);
        due(40, "signs", 2, x.told(0));
        say(x, "2");
        x.read(1);
        say(x, "2");
        x.read(4);
        due(40, "laps", 18, x.told(1));
        say(x, "2");
        x.read(0);
        due(40, "laps", 19, x.told(1));
        x.strip(1);
        x.strip(2);
        x.bar(0, true);
        due(40, "strips, barred ones too", 2, x.told(2));
        x.choice(0, 0, 0, 0);
        due(40, "choices", 1, x.told(3));
        x.joint(0, 1, 0);
        x.joint(3, 1, 0);
        due(40, "joints", 9, x.told(4));
        for (int what : new int[] {-1, 5, 9, 18, Integer.MAX_VALUE, Integer.MIN_VALUE}) {
            due(40, "OUTSIDE", OUTSIDE, x.told(what));
        }
    }
}
