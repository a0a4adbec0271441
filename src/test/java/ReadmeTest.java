import java.nio.file.Files;
import java.nio.file.Path;
import java.util.HashSet;
import java.util.Set;
import java.util.regex.Matcher;
import java.util.regex.Pattern;

/** The rows of README.md answer as they say, and its list of tests is whole. */
public final class ReadmeTest {
    private static final Pattern SIGNS = Pattern.compile("for \\(char sign : \"([^\"]*)\".*house\\.say\\(sign\\);");
    private static final Pattern ROW = Pattern.compile("house\\.(\\w+)\\(([^)]*)\\); *// (-?\\d+): .*");
    private static final Path SOURCE = Path.of(System.getProperty("glue.source", "src/main/java/GlueHouse.java"));
    private static final Path ROOT = SOURCE.toAbsolutePath().getParent().getParent().getParent().getParent();
    private static final int LEAST_ROWS = 40;

    private static int rows;
    private static int wrong;

    public static void main(String[] args) throws Exception {
        String readme = Files.readString(ROOT.resolve("README.md"));
        GlueHouse house = new GlueHouse();
        Set<String> called = new HashSet<>();
        for (String line : readme.split("\n")) {
            Matcher signs = SIGNS.matcher(line);
            Matcher row = ROW.matcher(line);
            if (signs.matches()) {
                signs.group(1).chars().forEach(house::say);
            } else if (row.matches()) {
                called.add(row.group(1));
                look(line, Script.answer(house, row.group(1), numbers(row.group(2))), Long.parseLong(row.group(3)));
            } else if (line.startsWith("house.")) {
                tell(line + " is no row that can be run");
            }
        }
        if (rows < LEAST_ROWS || called.size() < LEAST_ROWS / 2) {
            tell("README.md has " + rows + " rows of " + called.size() + " calls alone");
        }
        namesEachTest(readme);
        System.out.println(rows + " rows looked at, " + wrong + " things are not as due");
        if (wrong != 0) {
            System.exit(1);
        }
    }

    private static void namesEachTest(String readme) throws Exception {
        try (var tests = Files.list(ROOT.resolve("src/test/java"))) {
            for (Path test : tests.sorted().toList()) {
                String name = test.getFileName().toString().replace(".java", "");
                if (!readme.contains("- `" + name + "`:")) {
                    tell("README.md does not name " + name);
                }
            }
        }
    }

    private static void look(String line, long got, long due) {
        rows++;
        if (got != due) {
            tell(line + " answered " + got);
        }
    }

    private static void tell(String what) {
        wrong++;
        System.out.println(what);
    }

    private static int[] numbers(String text) {
        String[] parts = text.isEmpty() ? new String[0] : text.split(", *");
        int[] numbers = new int[parts.length];
        for (int i = 0; i < parts.length; i++) {
            numbers[i] = Integer.parseInt(parts[i]);
        }
        return numbers;
    }
}
