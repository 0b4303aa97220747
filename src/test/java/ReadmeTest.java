import java.io.IOException;
import java.lang.reflect.Method;
import java.lang.reflect.Modifier;
import java.nio.file.DirectoryStream;
import java.nio.file.Files;
import java.nio.file.Path;
import java.util.ArrayList;
import java.util.List;
import java.util.Set;
import java.util.TreeSet;
import java.util.regex.Matcher;
import java.util.regex.Pattern;

/** README.md tells the program and its tests as they are. */
final class ReadmeTest {
    private static final Path README = Path.of("README.md");
    private static final Path TESTS = Path.of("src/test/java");
    /** A line of the example: a call, and its answer, its exception or mere words in the comment. */
    private static final Pattern LINE = Pattern.compile(
            "x\\.(\\w+\\(.*\\)); +// (?:(-?\\d+)(?::.*)?|throws (\\w+)Exception(?::.*)?|(.*))");
    private static final Pattern ROW = Pattern.compile("\n\\| `(\\w+)\\((.*)\\)` \\|");

    public static void main(String[] args) throws IOException {
        String readme = Files.readString(README);
        example(readme);
        calls(readme);
        tests(readme);
        Check.end();
    }

    private static void example(String readme) {
        String code = readme.substring(readme.indexOf("```java\n") + 8);
        StringBuilder script = new StringBuilder();
        Set<String> used = new TreeSet<>();
        for (String line : code.substring(0, code.indexOf("```")).split("\n")) {
            Matcher matcher = LINE.matcher(line);
            if (matcher.matches()) {
                used.add(Subject.Call.of(matcher.group(1)).name());
                script.append(asScript(matcher)).append('\n');
            } else if (!line.isEmpty()) {
                Check.same("README.md: the example's other lines", line,
                        "IslandRights x = new IslandRights();");
            }
        }
        Script.run("README.md: the example", script.toString());
        for (Method method : publicMethods()) {
            String name = method.getName();
            Check.same("README.md: the example has " + name, used.contains(name), true);
        }
    }

    private static String asScript(Matcher line) {
        String call = line.group(1);
        if (line.group(2) != null) {
            return call + " = " + line.group(2);
        }
        if (line.group(3) != null) {
            return call + " throws " + line.group(3);
        }
        boolean answersNothing = call.startsWith("open(") || call.startsWith("fare(");
        Check.same("README.md: an answer is told of " + call, answersNothing, true);
        return call;
    }

    /** The table has a row for each call, with as many arguments as it takes. */
    private static void calls(String readme) {
        Set<String> rows = new TreeSet<>();
        Matcher matcher = ROW.matcher(readme);
        while (matcher.find()) {
            rows.add(matcher.group(1) + " " + matcher.group(2).split(", ").length);
        }
        Set<String> due = new TreeSet<>();
        for (Method method : publicMethods()) {
            due.add(method.getName() + " " + method.getParameterCount());
        }
        Check.same("README.md: the table of calls", rows, due);
    }

    private static List<Method> publicMethods() {
        List<Method> methods = new ArrayList<>();
        for (Method method : IslandRights.class.getDeclaredMethods()) {
            if (Modifier.isPublic(method.getModifiers())) {
                methods.add(method);
            }
        }
        return methods;
    }

    private static void tests(String readme) throws IOException {
        Set<String> due = new TreeSet<>();
        try (DirectoryStream<Path> files = Files.newDirectoryStream(TESTS, "*Test.java")) {
            for (Path file : files) {
                due.add(file.getFileName().toString().replace(".java", ""));
            }
        }
        Set<String> told = new TreeSet<>();
        Matcher matcher = Pattern.compile("`(\\w+Test)`").matcher(readme);
        while (matcher.find()) {
            told.add(matcher.group(1));
        }
        Check.same("README.md: the tests", told, due);
    }
}
