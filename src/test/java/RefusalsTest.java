import java.util.ArrayList;
import java.util.List;

/**
 * Every argument of every call below its least, above its greatest and far away, alone and two of them at a time: the
 * first refusal that fits is the answer, and nothing changes (Script looks at that). The least and the greatest
 * themselves are not refused, or only by what comes behind UNKNOWN and OUTSIDE. Houses are furnished, so that there is
 * something that could change.
 */
public final class RefusalsTest {
    // LAP 1 is LOOSE, there are no LAPS 3 and 4, no JOINTS 4 and 6; the signs are a text.
    private static final String FURNISHED = "lap(0,3/21/0/03/5)=3 lap(1,0/11/0)=2 lap(2,5/33/5/33/5/33/5/33/5)=5 lap(5,1)=1 "
        + "work(0,0,40) work(0,2,900) rounds(0,7,2) damp(0,0,700) damp(0,9,30) damp(1,4,5) rate(2,30) rate(4,9) set(2,900) hours(0,3) "
        + "joint(0,5,0) joint(1,3,1) joint(2,8,0) joint(3,2,6) joint(5,4,0) set(4,2) set(0,50000) set(7,10) set(6,2) set(5,950) "
        + "strip(900) strip(1200) strip(1100) strip(700) bar(3,true) table(0,0,1) table(0,1,2) table(1,2,3) knock(0,1) knock(4,2) "
        + "sheet(5,1) knock(5,3) choice(0,50,900,700) choice(1,40,900,800) choice(3,30,1200,960) text(1/23/4) ";
    private static final String WITH_FAULT = FURNISHED + "say(47) ";
    private static final String WITH_RING = FURNISHED + "joint(0,5,8) ";
    private static final String ALL_BARRED = FURNISHED + "bar(0,true) bar(1,true) bar(2,true) ";
    private static final String FULL = FURNISHED + "34*say(50)=40 16*strip(5)=19 9*choice(2,5,5,1)=11 ";

    /** An argument: some that are right in a furnished house, some that are wrong, and how those are refused. */
    private record Argument(String refusal, int[] right, int[] wrong) {
    }

    private static int[] row(int... numbers) {
        return numbers;
    }

    private static Argument between(String refusal, int least, int most) {
        return new Argument(refusal, row(least, most), row(least - 1, most + 1, Integer.MIN_VALUE, Integer.MAX_VALUE));
    }

    private static Argument outside(int least, int most) {
        return between("OUTSIDE", least, most);
    }

    private static final Argument LAP = new Argument("UNKNOWN", row(0, 5), row(-1, 3, 4, 6, Integer.MIN_VALUE, Integer.MAX_VALUE));
    private static final Argument LOOSE = new Argument("UNKNOWN", row(1), LAP.wrong());
    private static final Argument SPOT = new Argument("UNKNOWN", row(0, 2), row(-1, 3, 4, 5, Integer.MIN_VALUE, Integer.MAX_VALUE));
    private static final Argument LOOSE_SPOT = new Argument("UNKNOWN", row(0, 1), row(-1, 2, 3, 5, Integer.MIN_VALUE, Integer.MAX_VALUE));
    private static final Argument OFF_SPOT = new Argument("UNKNOWN", row(1), SPOT.wrong());
    private static final Argument JOINT_THERE = new Argument("UNKNOWN", row(0, 5), row(-1, 4, 6, 7, Integer.MIN_VALUE, Integer.MAX_VALUE));
    private static final Argument PLACE = between("UNKNOWN", 0, 9);
    private static final Argument KIND = between("UNKNOWN", 0, 3);
    private static final Argument PART = outside(0, 1);
    private static final Argument PULL = outside(1, 100);
    private static final Argument LOAD = outside(0, 10000);
    private static final Argument SHEET = outside(0, 3);
    private static final Argument GAP = outside(0, 3);
    // 1 and 3 are right for all that set() sets, the others are wrong for all.
    private static final Argument ANY_SETTING = new Argument("OUTSIDE", row(1, 3), row(-1, 1000001, Integer.MIN_VALUE, Integer.MAX_VALUE));
    private static final Argument ANY_TOLD = new Argument("OUTSIDE", row(0, 1, 2, 3, 4, 10, 11, 12, 13, 14, 15, 16, 17),
        row(-1, 5, 6, 7, 8, 9, 18, Integer.MIN_VALUE, Integer.MAX_VALUE));
    private static final Argument YES_OR_NO = new Argument("", row(0, 1), row());

    public static void main(String[] args) {
        laps();
        breaks();
        dampAndCure();
        joints();
        strips();
        knocks();
        choicesAndCauses();
        look(40, FURNISHED, "told", "FINE", ANY_TOLD);
        Script.finish();
    }

    private static void laps() {
        look(2, FURNISHED, "say", "FINE", outside(33, 126));
        look(2, FULL, "say", "FULL", outside(33, 126));
        look(5, FURNISHED, "read", "FINE", between("UNKNOWN", 0, 5));
        look(5, WITH_FAULT, "read", "NO", between("UNKNOWN", 0, 5));
        look(6, FURNISHED, "spot", "FINE", LAP, SPOT, outside(0, 4));
        look(7, FURNISHED, "glue", "FINE", LAP, SPOT, outside(0, 5));
        look(8, FURNISHED, "work", "FINE", LAP, SPOT, outside(0, 1000));
        look(9, FURNISHED, "pull", "FINE", LAP, SPOT, outside(0, 2), PART);
        look(9, FURNISHED, "pull", "STATE", LOOSE, LOOSE_SPOT, outside(0, 2), PART);
        look(10, FURNISHED, "give", "FINE", LAP, PART);
        look(10, FURNISHED, "give", "STATE", LOOSE, PART);
        look(11, FURNISHED, "hardest", "FINE", LAP);
        look(11, FURNISHED, "hardest", "STATE", LOOSE);
    }

    private static void breaks() {
        look(12, FURNISHED, "back", "FINE", LAP, SPOT, PULL, PART);
        look(12, FURNISHED, "back", "STATE", LOOSE, LOOSE_SPOT, PULL, PART);
        look(12, FURNISHED, "back", "STATE", new Argument("UNKNOWN", row(0), LAP.wrong()), OFF_SPOT, PULL, PART);
        look(13, FURNISHED, "spreads", "FINE", LAP, PULL);
        look(13, FURNISHED, "spreads", "STATE", LOOSE, PULL);
        look(14, FURNISHED, "first", "FINE", LAP);
        look(14, FURNISHED, "first", "STATE", LOOSE);
        look(15, FURNISHED, "snap", "FINE", LAP, PULL);
        look(15, FURNISHED, "snap", "STATE", LOOSE, PULL);
        look(16, FURNISHED, "rounds", "FINE", LAP, PULL, outside(1, 1000));
        look(16, FURNISHED, "rounds", "STATE", LOOSE, PULL, outside(1, 1000));
        look(17, FURNISHED, "set", "FINE", outside(0, 7), ANY_SETTING);
    }

    private static void dampAndCure() {
        look(18, FURNISHED, "damp", "FINE", LAP, outside(0, 9), outside(0, 1000));
        look(19, FURNISHED, "hours", "FINE", LAP, outside(1, 1000));
        look(20, FURNISHED, "of", "FINE", LAP, outside(0, 12));
        look(21, FURNISHED, "rate", "FINE", outside(0, 4), outside(0, 100));
    }

    private static void joints() {
        look(22, FURNISHED, "joint", "FINE", between("UNKNOWN", 0, 6), outside(0, 100), outside(0, 127));
        look(23, FURNISHED, "best", "FINE", new Argument("", row(-1, 0, 4, 5, 6, 7, -2, Integer.MIN_VALUE, Integer.MAX_VALUE), row()));
        look(23, WITH_RING, "best", "STATE", new Argument("", row(-1, 0, 4, 5, 6, 7, -2, Integer.MIN_VALUE, Integer.MAX_VALUE), row()));
        look(24, FURNISHED, "begun", "FINE", JOINT_THERE);
        look(24, WITH_RING, "begun", "STATE", JOINT_THERE);
    }

    private static void strips() {
        look(25, FURNISHED, "strip", "FINE", LOAD);
        look(25, FULL, "strip", "FULL", LOAD);
        look(26, FURNISHED, "bar", "FINE", between("UNKNOWN", 0, 3), YES_OR_NO);
        look(26, FULL, "bar", "FINE", between("UNKNOWN", 0, 19), YES_OR_NO);
        look(27, FURNISHED, "strips", "FINE", outside(0, 1), PART);
        look(27, ALL_BARRED, "strips", "STATE", outside(0, 1), PART);
        look(29, FURNISHED, "odd", "FINE", outside(1, 19), PART);
        look(29, ALL_BARRED, "odd", "STATE", outside(1, 19), PART);
    }

    private static void knocks() {
        look(30, FURNISHED, "knock", "FINE", PLACE, outside(-1, 9));
        look(31, FURNISHED, "sheet", "FINE", PLACE, SHEET);
        look(32, FURNISHED, "table", "FINE", SHEET, GAP, outside(0, 9));
        look(33, FURNISHED, "fit", "FINE", PLACE);
        look(35, FURNISHED, "sure", "FINE", PLACE);
        look(36, FURNISHED, "unseen", "FINE", SHEET);
    }

    private static void choicesAndCauses() {
        look(37, FURNISHED, "choice", "FINE", KIND, outside(0, 1000), LOAD, LOAD);
        look(37, FULL, "choice", "FULL", KIND, outside(0, 1000), LOAD, LOAD);
        look(38, FURNISHED, "cheapest", "FINE", LOAD, between("UNKNOWN", -1, 3));
        look(39, FURNISHED, "led", "FINE", LAP, LOAD, outside(0, 100), LOAD, LOAD, outside(0, 1));
    }

    private static void look(int promise, String house, String name, String dueOfRight, Argument... arguments) {
        for (int one = 0; one < arguments.length; one++) {
            right(promise, house, name, dueOfRight, arguments, one);
            wrong(promise, house, name, arguments, one, one);
            for (int other = one + 1; other < arguments.length; other++) {
                wrong(promise, house, name, arguments, one, other);
            }
        }
    }

    private static void right(int promise, String house, String name, String due, Argument[] arguments, int at) {
        for (int value : arguments[at].right()) {
            int[] numbers = rightOnes(arguments);
            numbers[at] = value;
            Script.due(promise, name + " with what is right", house + call(name, numbers) + "=" + due);
        }
    }

    private static void wrong(int promise, String house, String name, Argument[] arguments, int one, int other) {
        String due = refusalOf(arguments[one], arguments[other]);
        List<String> calls = new ArrayList<>();
        for (int value : arguments[one].wrong()) {
            int[] numbers = rightOnes(arguments);
            numbers[one] = value;
            for (int otherValue : one == other ? row(value) : arguments[other].wrong()) {
                numbers[other] = otherValue;
                calls.add(call(name, numbers) + "=" + due);
            }
        }
        Script.due(promise, name + " with what is wrong", house + String.join(" ", calls));
    }

    private static String refusalOf(Argument one, Argument other) {
        return one.refusal().equals("UNKNOWN") || other.refusal().equals("UNKNOWN") ? "UNKNOWN" : "OUTSIDE";
    }

    private static int[] rightOnes(Argument[] arguments) {
        int[] numbers = new int[arguments.length];
        for (int i = 0; i < numbers.length; i++) {
            numbers[i] = arguments[i].right()[0];
        }
        return numbers;
    }

    private static String call(String name, int[] numbers) {
        StringBuilder text = new StringBuilder(name).append('(');
        for (int i = 0; i < numbers.length; i++) {
            text.append(i == 0 ? "" : ",").append(numbers[i]);
        }
        return text.append(')').toString();
    }
}
