import java.lang.reflect.InvocationTargetException;
import java.lang.reflect.Method;
import java.util.ArrayList;
import java.util.HashMap;
import java.util.List;
import java.util.Map;
import java.util.Set;
import java.util.regex.Matcher;
import java.util.regex.Pattern;

/**
 * Runs calls that are written as a text on a new object, and looks at each answer.
 *
 * A text is a row of calls with blanks between them: name(arguments)=due. The due answer may be left out; it is a
 * number, a constant of the face, FINE (any that is no refusal), or a fraction upper/lower, whose call then leaves out
 * the part. n*name(..)=due makes the call n times, and the last answer is looked at. Two names are not of the face:
 * text(3/21/1) wipes and says the signs, lap(0,3/21/1) also reads them into a LAP.
 *
 * Refused calls and calls that only ask change nothing: so behind each text the object is held against a twin that
 * was not asked any of these.
 */
final class Script {
    private static final int MOST_CALLS = 512;
    private static final Pattern CALL = Pattern.compile("(?:(\\d+)\\*)?(\\w+)\\(([^)]*)\\)(?:=(\\S+))?");
    private static final Set<String> CHANGING = Set.of("say", "wipe", "read", "glue", "work", "snap", "rounds", "set", "damp", "hours",
        "rate", "joint", "strip", "bar", "knock", "sheet", "table", "choice");
    private static final Map<String, Integer> NAMED = Map.of("NONE", -6, "UNKNOWN", -1, "OUTSIDE", -2, "STATE", -3, "FULL", -4, "NO", -5,
        "LEAST", Integer.MIN_VALUE, "MOST", Integer.MAX_VALUE);
    private static final Set<String> REFUSALS = Set.of("UNKNOWN", "OUTSIDE", "STATE", "FULL", "NO");
    private static final long LOST = -1000000000000000000L;
    private static final Map<String, Method> FACE = new HashMap<>();

    private static int texts;
    private static int answers;
    private static int wrong;

    static {
        for (Method method : GlueHouse.class.getDeclaredMethods()) {
            FACE.put(method.getName(), method);
        }
    }

    private final String sentence;
    private final GlueHouse house = new GlueHouse();
    private final GlueHouse twin = new GlueHouse();
    private int calls;

    private Script(String sentence) {
        this.sentence = sentence;
    }

    /** The calls show that the sentence of the promise holds. */
    static void due(int promise, String sentence, String... rows) {
        texts++;
        Script script = new Script("promise " + promise + ", " + sentence);
        for (String call : String.join(" ", rows).trim().split("\\s+")) {
            script.run(call);
        }
        script.holdAgainstTwin();
    }

    static void finish() {
        System.out.println(texts + " texts run, " + answers + " answers looked at, " + wrong + " are not as due");
        if (wrong != 0) {
            System.exit(1);
        }
    }

    private void run(String call) {
        Matcher parts = CALL.matcher(call);
        if (!parts.matches()) {
            throw new IllegalArgumentException(sentence + ": " + call + " is no call");
        }
        int times = parts.group(1) == null ? 1 : Integer.parseInt(parts.group(1));
        String name = parts.group(2);
        String[] args = parts.group(3).isEmpty() ? new String[0] : parts.group(3).split(",", -1);
        String due = parts.group(4);
        for (int i = 1; i < times; i++) {
            runOnce(call, name, args, null);
        }
        runOnce(call, name, args, due);
    }

    private void runOnce(String call, String name, String[] args, String due) {
        if (name.equals("text") || name.equals("lap")) {
            boolean read = name.equals("lap");
            sayAll(read ? args[1] : args.length == 0 ? "" : args[0]);
            if (read) {
                look(call, "read", numbers(args[0]), due);
            }
            return;
        }
        Method method = method(name);
        if (args.length == method.getParameterCount() - 1 && method.getReturnType() == long.class) {
            boolean refused = due == null || REFUSALS.contains(due);
            String[] fraction = refused ? new String[] {due, due} : due.split("/");
            look(call, name, with(numbers(args), 0), fraction[0]);
            look(call, name, with(numbers(args), 1), fraction[1]);
            return;
        }
        look(call, name, numbers(args), due);
    }

    private void sayAll(String text) {
        look("wipe", "wipe", new int[0], null);
        for (int i = 0; i < text.length(); i++) {
            look("say", "say", new int[] {text.charAt(i)}, null);
        }
    }

    private void look(String call, String name, int[] args, String due) {
        calls++;
        if (calls > MOST_CALLS) {
            throw new IllegalArgumentException(sentence + ": more than 512 calls");
        }
        long got = answer(house, name, args);
        boolean refused = due != null && REFUSALS.contains(due);
        long lost = method(name).getReturnType() == long.class ? LOST : 0;
        if (due != null && due.equals("FINE")) {
            tell(call + ", refused", got < lost && got >= lost - 5 ? 1 : 0, 0);
        } else if (due != null) {
            tell(call, got, refused ? lost + number(due) : number(due));
        }
        if (!refused && CHANGING.contains(name)) {
            answer(twin, name, args);
        }
    }

    private void tell(String call, long got, long due) {
        answers++;
        if (got != due) {
            wrong++;
            System.out.println(sentence + ": " + call + " answered " + got + ", due is " + due);
        }
    }

    // A run that is near its 512 calls has no room for being looked at whole.
    private void holdAgainstTwin() {
        Fingerprint one = new Fingerprint(house);
        Fingerprint other = new Fingerprint(twin);
        if (calls + one.size() <= MOST_CALLS && !one.isLike(other)) {
            wrong++;
            System.out.println(sentence + ": a call that was refused, or only asked, changed something: " + one.firstUnlike(other));
        }
    }

    private static long number(String text) {
        return NAMED.containsKey(text) ? NAMED.get(text) : Long.parseLong(text);
    }

    private static int[] numbers(String... texts) {
        int[] numbers = new int[texts.length];
        for (int i = 0; i < texts.length; i++) {
            numbers[i] = texts[i].equals("true") ? 1 : texts[i].equals("false") ? 0 : (int) number(texts[i]);
        }
        return numbers;
    }

    private static int[] with(int[] numbers, int part) {
        int[] longer = java.util.Arrays.copyOf(numbers, numbers.length + 1);
        longer[numbers.length] = part;
        return longer;
    }

    private static Method method(String name) {
        Method method = FACE.get(name);
        if (method == null) {
            throw new IllegalArgumentException("no call " + name);
        }
        return method;
    }

    static long answer(GlueHouse house, String name, int... args) {
        Method method = method(name);
        Object[] given = new Object[args.length];
        for (int i = 0; i < args.length; i++) {
            given[i] = method.getParameterTypes()[i] == boolean.class ? (Object) (args[i] != 0) : (Object) args[i];
        }
        try {
            return ((Number) method.invoke(house, given)).longValue();
        } catch (InvocationTargetException thrown) {
            throw new IllegalStateException(name + java.util.Arrays.toString(args), thrown.getCause());
        } catch (IllegalAccessException barred) {
            throw new IllegalStateException(name, barred);
        }
    }

    /** All that can be known of an object; what only a change tells is asked last. */
    private static final class Fingerprint {
        private final GlueHouse house;
        private final List<String> rows = new ArrayList<>();

        Fingerprint(GlueHouse house) {
            this.house = house;
            askOfLaps();
            askOfTheRest();
            askByChanging();
        }

        int size() {
            return rows.size();
        }

        boolean isLike(Fingerprint other) {
            return rows.equals(other.rows);
        }

        String firstUnlike(Fingerprint other) {
            for (int i = 0; i < rows.size() && i < other.rows.size(); i++) {
                if (!rows.get(i).equals(other.rows.get(i))) {
                    return rows.get(i) + ", the twin has " + other.rows.get(i);
                }
            }
            return "more rows";
        }

        private long ask(String name, int... args) {
            long got = answer(house, name, args);
            rows.add(name + java.util.Arrays.toString(args) + " = " + got);
            return got;
        }

        private void askOfLaps() {
            for (int lap = 0; lap < 6; lap++) {
                for (int what = 0; what < 13 && ask("of", lap, what) >= 0; what++) {
                    for (int i = 0; what == 0 && i <= 5 && ask("spot", lap, i, 0) >= 0; i++) {
                        ask("spot", lap, i, 1);
                        ask("spot", lap, i, 2);
                        ask("spot", lap, i, 3);
                        ask("spot", lap, i, 4);
                    }
                }
            }
        }

        private void askOfTheRest() {
            for (int what : new int[] {0, 1, 2, 3, 4, 10, 11, 12, 13, 14, 15, 16, 17}) {
                ask("told", what);
            }
            ask("fault");
            for (int joint = 0; joint < 7; joint++) {
                ask("best", joint);
                ask("begun", joint);
            }
            ask("strips", 0, 0);
            ask("strips", 1, 0);
            ask("weak");
            ask("odd", 7, 0);
            ask("fits");
            for (int place = 0; place < 10; place++) {
                ask("sure", place);
            }
            for (int kind = -1; kind < 4; kind++) {
                ask("cheapest", 0, kind);
                ask("cheapest", 500, kind);
                ask("cheapest", 5000, kind);
            }
        }

        private void askByChanging() {
            for (int place = 0; place < 10; place++) {
                ask("knock", place, 0);
                ask("sheet", place, 0);
            }
            for (int ten = 0; ten < 5; ten++) {
                ask("rate", ten, 0);
            }
            for (int at = 0; at < 16; at++) {
                ask("table", at / 4, at % 4, 0);
            }
            for (int joint = 0; joint < 7; joint++) {
                ask("joint", joint, 1, 0);
            }
            if (ask("read", 0) > 0) {
                ask("spot", 0, 0, 0);
                ask("give", 0, 0);
                ask("give", 0, 1);
            }
        }
    }
}
