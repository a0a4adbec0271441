import java.lang.reflect.Constructor;
import java.lang.reflect.Field;
import java.lang.reflect.Member;
import java.lang.reflect.Method;
import java.lang.reflect.Modifier;
import java.nio.file.Files;
import java.nio.file.Path;
import java.util.ArrayList;
import java.util.List;
import java.util.Set;
import java.util.TreeSet;
import java.util.regex.Matcher;
import java.util.regex.Pattern;

/** The face is the document's and no more, and the source keeps to what LANGUAGE.md leaves. */
public final class FaceTest {
    private static final String FACE = "int say(int) int wipe() int fault() int read(int) int spot(int,int,int) int glue(int,int,int) "
        + "int work(int,int,int) long pull(int,int,int,int) long give(int,int) int hardest(int) long back(int,int,int,int) "
        + "int spreads(int,int) int first(int) int snap(int,int) int rounds(int,int,int) int set(int,int) int damp(int,int,int) "
        + "int hours(int,int) int of(int,int) int rate(int,int) int joint(int,int,int) int best(int) int begun(int) int strip(int) "
        + "int bar(int,boolean) long strips(int,int) int weak() long odd(int,int) int knock(int,int) int sheet(int,int) "
        + "int table(int,int,int) int fit(int) int fits() int sure(int) int unseen(int) int choice(int,int,int,int) "
        + "int cheapest(int,int) int led(int,int,int,int,int,int) int told(int)";
    private static final String CONSTANTS = "NONE UNKNOWN OUTSIDE STATE FULL NO LOST";
    private static final String[] BARRED = {"->", "::", "\\btry\\b", "\\bcatch\\b", "\\bfinally\\b", "\\bsynchronized\\b", "\\bassert\\b",
        "\\bthrows?\\b", "static \\{", "Exact\\(", "\\bdouble\\b", "\\bfloat\\b", "\\bvolatile\\b", "System\\.(?!arraycopy)", "\\bprotected\\b",
        "\\bequals\\b", "\\bhashCode\\b", "\\btoString\\b"};

    private static int wrong;

    private static void tell(boolean fine, String what) {
        if (!fine) {
            wrong++;
            System.out.println(what);
        }
    }

    public static void main(String[] args) throws Exception {
        face();
        classes();
        source(Files.readAllLines(Path.of(System.getProperty("glue.source", "src/main/java/GlueHouse.java"))));
        System.out.println(wrong == 0 ? "the face and the source are as told" : wrong + " things are not as told");
        if (wrong != 0) {
            System.exit(1);
        }
    }

    private static void face() {
        Set<String> due = new TreeSet<>(List.of(FACE.split("(?<=\\)) ")));
        Set<String> found = new TreeSet<>();
        Set<String> names = new TreeSet<>();
        for (Method method : GlueHouse.class.getDeclaredMethods()) {
            if (!Modifier.isPrivate(method.getModifiers())) {
                found.add(signature(method));
                names.add(method.getName());
                tell(Modifier.isPublic(method.getModifiers()) && !Modifier.isStatic(method.getModifiers()), method + " is not of the face");
            }
        }
        tell(found.equals(due), "the methods are " + found);
        tell(names.size() == due.size(), "some name stands twice");
        for (Class<?> each : allClasses()) {
            for (Method method : each.getDeclaredMethods()) {
                boolean inFace = each == GlueHouse.class && Modifier.isPublic(method.getModifiers());
                tell(inFace || !names.contains(method.getName()), method + " bears a name of the face");
            }
        }
        Set<String> constants = new TreeSet<>();
        for (Field field : GlueHouse.class.getDeclaredFields()) {
            if (!Modifier.isPrivate(field.getModifiers())) {
                constants.add(field.getName());
                tell(Modifier.isPublic(field.getModifiers()) && Modifier.isStatic(field.getModifiers()), field + " is not of the face");
            }
        }
        tell(constants.equals(new TreeSet<>(List.of(CONSTANTS.split(" ")))), "the constants are " + constants);
        Constructor<?>[] constructors = GlueHouse.class.getDeclaredConstructors();
        tell(constructors.length == 1 && constructors[0].getParameterCount() == 0 && isPublic(constructors[0]), "the constructor");
        tell(Modifier.isFinal(GlueHouse.class.getModifiers()) && Modifier.isPublic(GlueHouse.class.getModifiers()), "public final");
    }

    private static boolean isPublic(Member member) {
        return Modifier.isPublic(member.getModifiers());
    }

    private static String signature(Method method) {
        List<String> types = new ArrayList<>();
        for (Class<?> type : method.getParameterTypes()) {
            types.add(type.getName());
        }
        return method.getReturnType().getName() + " " + method.getName() + "(" + String.join(",", types) + ")";
    }

    private static List<Class<?>> allClasses() {
        List<Class<?>> all = new ArrayList<>(List.of(GlueHouse.class.getDeclaredClasses()));
        all.add(GlueHouse.class);
        return all;
    }

    private static void classes() {
        tell(allClasses().size() <= 12, "more than twelve classes");
        for (Class<?> each : allClasses()) {
            boolean inside = each != GlueHouse.class;
            tell(!inside || Modifier.isStatic(each.getModifiers()) && !isShown(each.getModifiers()), each + " is not private and static");
            int fields = 0;
            for (Field field : each.getDeclaredFields()) {
                boolean isStatic = Modifier.isStatic(field.getModifiers());
                tell(!isStatic || Modifier.isFinal(field.getModifiers()), field + " is static and not final");
                fields += isStatic ? 0 : 1;
            }
            tell(fields <= 20, each + " has " + fields + " fields");
            for (Method method : each.getDeclaredMethods()) {
                tell(method.getParameterCount() <= 7, method + " takes too much");
            }
        }
    }

    private static boolean isShown(int modifiers) {
        return Modifier.isPublic(modifiers) || Modifier.isProtected(modifiers);
    }

    private static void source(List<String> lines) {
        Pattern head = Pattern.compile("^( {4}| {8})(public|private|static|final|int|long|boolean|void|Lap|GlueHouse|[A-Z]\\w+)\\b.*\\) \\{$");
        int begun = -1;
        String indent = "";
        for (int i = 0; i < lines.size(); i++) {
            String line = lines.get(i);
            String code = line.replaceAll("//.*|^ *\\*.*|/\\*\\*.*", "");
            tell(line.chars().allMatch(c -> c < 127), "a sign beyond 126 in line " + (i + 1));
            tell(!code.startsWith("import") || code.equals("import java.util.Arrays;"), "line " + (i + 1) + ": " + line);
            tell(!code.startsWith("package"), "a package");
            for (String barred : BARRED) {
                tell(!Pattern.compile(barred).matcher(code).find(), "line " + (i + 1) + " has " + barred);
            }
            Matcher matcher = head.matcher(code);
            if (begun < 0 && matcher.matches()) {
                begun = i;
                indent = matcher.group(1);
            } else if (begun >= 0 && line.equals(indent + "}")) {
                tell(i - begun <= 60, "the method of line " + (begun + 1) + " is too long");
                begun = -1;
            }
        }
        tell(begun < 0, "a method without an end at line " + (begun + 1));
    }
}
