import java.io.IOException;
import java.nio.file.Files;
import java.nio.file.Path;
import java.util.ArrayList;
import java.util.List;
import java.util.Set;
import java.util.TreeSet;
import java.util.regex.Matcher;
import java.util.regex.Pattern;
import java.util.stream.Stream;

/** README.md holds: each call of its examples answers what stands behind it, and no method or test is left out. */
public final class ReadmeTest {
    private static final Pattern CALL =
        Pattern.compile("x\\.(\\w+)\\(([^)]*)\\);\\s+// (-?\\d+|true|false|throws|Integer\\.MAX_VALUE|Integer\\.MIN_VALUE)\\b.*");
    private static final Pattern TAPE = Pattern.compile("tape\\(x, \"([^\"]*)\"\\);");
    private static final Pattern ROW = Pattern.compile("\\| `(\\w+)\\(([^)]*)\\)` \\| .* \\|");
    private static final Pattern METHOD = Pattern.compile("    public (?:int |boolean )?(\\w+)\\(([^)]*)\\).*;");

    private static ClockReach x;

    public static void main(String[] args) throws IOException {
        List<String> lines = Files.readAllLines(Path.of("README.md"));
        examples(lines);
        helper(lines);
        methods(lines);
        tests(lines);
        Check.finish("ReadmeTest");
    }

    private static List<String> blocks(List<String> lines, String fence) {
        List<String> inside = new ArrayList<>();
        boolean open = false;
        for (String line : lines) {
            if (line.startsWith("```")) {
                open = line.equals(fence);
            } else if (open) {
                inside.add(line);
            }
        }
        return inside;
    }

    private static void examples(List<String> lines) {
        Set<String> called = new TreeSet<>();
        for (String line : blocks(lines, "```java")) {
            Matcher call = CALL.matcher(line);
            Matcher tape = TAPE.matcher(line);
            if (line.equals("ClockReach x = new ClockReach();")) {
                x = new ClockReach();
            } else if (tape.matches()) {
                Check.tape(x, tape.group(1));
            } else if (call.matches()) {
                called.add(call.group(1));
                Calls.due(x, number(call.group(3)), call.group(1), arguments(call.group(2)));
            } else {
                Check.same("a line that can be run: " + line, line.isEmpty(), true);
            }
        }
        for (java.lang.reflect.Method method : ClockReach.class.getDeclaredMethods()) {
            if (java.lang.reflect.Modifier.isPublic(method.getModifiers())) {
                Check.same("an example has " + method.getName(), called.contains(method.getName()), true);
            }
        }
    }

    private static int[] arguments(String told) {
        if (told.isEmpty()) {
            return new int[0];
        }
        String[] parts = told.split(", ");
        int[] numbers = new int[parts.length];
        for (int i = 0; i < parts.length; i++) {
            numbers[i] = (int) number(parts[i]);
        }
        return numbers;
    }

    private static long number(String told) {
        switch (told) {
            case "true":
                return 1;
            case "false":
                return 0;
            case "throws":
                return Calls.THROWS;
            case "Integer.MAX_VALUE":
                return Integer.MAX_VALUE;
            case "Integer.MIN_VALUE":
                return Integer.MIN_VALUE;
            default:
                return Long.decode(told);
        }
    }

    /** The functions that feed a text are the ones that all tests use, line by line. */
    private static void helper(List<String> lines) throws IOException {
        String told = String.join("\n", blocks(lines, "```java helper"));
        String source = String.join("\n", Files.readAllLines(Path.of("src/test/java/Check.java")));
        Check.same("the helper is told", told.contains("static void tape") && told.contains("static int four"), true);
        for (String function : told.split("\n\n")) {
            Check.same("Check.java has " + function, source.contains(function), true);
        }
    }

    private static void methods(List<String> lines) throws IOException {
        List<String> want = new ArrayList<>();
        for (String line : Files.readAllLines(Path.of("../shared/DOC.md"))) {
            Matcher method = METHOD.matcher(line);
            if (method.matches()) {
                want.add(method.group(1) + "(" + method.group(2).replaceAll("(int|boolean) ", "") + ")");
            }
        }
        List<String> got = new ArrayList<>();
        for (String line : lines) {
            Matcher row = ROW.matcher(line);
            if (row.matches()) {
                got.add(row.group(1) + "(" + row.group(2) + ")");
            }
        }
        Check.same("methods of the document", want.size(), 41);
        Check.same("README has the methods " + want + " and has " + got, got.equals(want), true);
    }

    private static void tests(List<String> lines) throws IOException {
        try (Stream<Path> files = Files.list(Path.of("src/test/java"))) {
            for (Path file : (Iterable<Path>) files.sorted()::iterator) {
                String name = file.getFileName().toString().replace(".java", "");
                boolean told = false;
                for (String line : lines) {
                    boolean row = line.startsWith("| ") && line.contains(name) && name.endsWith("Test");
                    told |= row || line.contains("`" + name + "`");
                }
                Check.same("README tells of " + name, told, true);
            }
        }
    }
}
