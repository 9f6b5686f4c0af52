import java.io.IOException;
import java.lang.reflect.InvocationTargetException;
import java.net.URL;
import java.net.URLClassLoader;
import java.nio.file.Files;
import java.nio.file.Path;
import java.util.ArrayList;
import java.util.Comparator;
import java.util.List;
import java.util.Set;
import java.util.TreeSet;
import java.util.regex.MatchResult;
import java.util.regex.Matcher;
import java.util.regex.Pattern;
import java.util.stream.Collectors;
import java.util.stream.Stream;
import javax.tools.ToolProvider;

/** What README.md says is so: its example, its table of the calls, and the tests that it names. */
public final class ReadmeTest {
    private static final Pattern EXAMPLE = Pattern.compile("(?s)```java\n(.*?)```");
    /** A statement, the variable that it sets if it sets one, the call, and its answer. */
    private static final Pattern LINE =
            Pattern.compile("((?:(?:int )?(\\w+) = )?(.*?);) *// (-?\\d+|true|false|throws \\w+)(?:: .*)?");
    private static final Pattern ROW = Pattern.compile("(?m)^\\| `([^`]+)` \\|([^|]*)\\|([^|]*)\\|$");
    private static final Pattern EXCEPTION = Pattern.compile("`(\\w+)`: ");
    private static final Pattern CLASS_NAME = Pattern.compile("`([A-Z][a-z]\\w*)`");

    public static void main(String[] args) throws IOException, ReflectiveOperationException {
        Expect expect = new Expect();
        checkExample(expect);
        checkCalls(expect);
        checkTests(expect);
        expect.end();
    }

    private static void checkExample(Expect expect) throws IOException, ReflectiveOperationException {
        Matcher example = EXAMPLE.matcher(Source.section(Source.README, "Use"));
        expect.equal("there is an example", example.find(), true);
        List<String> lines = example.group(1).lines().toList();
        expect.same("the example's first line", lines.get(0), "GrantDesk desk = new GrantDesk();");
        List<String> due = new ArrayList<>();
        StringBuilder statements = new StringBuilder(lines.get(0));
        for (String line : lines.subList(1, lines.size())) {
            Matcher parts = LINE.matcher(line);
            if (parts.matches()) {
                due.add(parts.group(4));
                statements.append('\n').append(telling(parts));
            } else {
                expect.tell("a line of the example tells no answer: " + line);
            }
        }
        List<String> got = answers(statements.toString());
        for (int i = 0; i < due.size(); i++) {
            expect.same(lines.get(i + 1), got.get(i), due.get(i));
        }
    }

    /** The line as a statement that tells its answer to a list. */
    private static String telling(MatchResult line) {
        if (line.group(2) != null) {
            return line.group(1) + " told.add(String.valueOf(" + line.group(2) + "));";
        }
        return "try { told.add(String.valueOf(" + line.group(3) + ")); } "
                + "catch (RuntimeException thrown) { told.add(\"throws \" + thrown.getClass().getSimpleName()); }";
    }

    private static List<String> answers(String statements) throws IOException, ReflectiveOperationException {
        Path directory = Files.createTempDirectory("readme");
        try {
            Path file = directory.resolve("Example.java");
            Files.writeString(file, "import java.util.List;\npublic final class Example {\n"
                    + "public static void run(List<String> told) {\n" + statements + "\n}\n}\n");
            int failed = ToolProvider.getSystemJavaCompiler().run(null, null, null, "-cp",
                    System.getProperty("java.class.path"), "-d", directory.toString(), file.toString());
            if (failed != 0) {
                throw new IllegalStateException("the example does not compile");
            }
            return run(directory);
        } finally {
            delete(directory);
        }
    }

    private static List<String> run(Path directory) throws IOException, ReflectiveOperationException {
        List<String> told = new ArrayList<>();
        try (URLClassLoader loader = new URLClassLoader(new URL[] {directory.toUri().toURL()})) {
            loader.loadClass("Example").getMethod("run", List.class).invoke(null, told);
        } catch (InvocationTargetException thrown) {
            throw new IllegalStateException("the example ends behind " + told, thrown.getCause());
        }
        return told;
    }

    private static void delete(Path directory) throws IOException {
        try (Stream<Path> files = Files.walk(directory)) {
            for (Path file : files.sorted(Comparator.reverseOrder()).toList()) {
                Files.delete(file);
            }
        }
    }

    /** The table has every call of the face, with what it throws, in order. */
    private static void checkCalls(Expect expect) throws IOException {
        List<String> told = ROW.matcher(Source.section(Source.README, "The calls")).results()
                .map(ReadmeTest::declaration).toList();
        expect.same("the table of the calls", told.toString(), Source.faceOfProgram().toString());
    }

    private static String declaration(MatchResult row) {
        String thrown = EXCEPTION.matcher(row.group(3)).results()
                .map(found -> found.group(1)).collect(Collectors.joining(", "));
        return row.group(1) + (thrown.isEmpty() ? "" : " throws " + thrown);
    }

    private static void checkTests(Expect expect) throws IOException {
        Set<String> named = CLASS_NAME.matcher(Source.section(Source.README, "Tests")).results()
                .map(found -> found.group(1)).collect(Collectors.toCollection(TreeSet::new));
        try (Stream<Path> files = Files.list(Source.TESTS)) {
            Set<String> present = files.map(file -> file.getFileName().toString().replace(".java", ""))
                    .collect(Collectors.toCollection(TreeSet::new));
            expect.same("the tests that are named", named.toString(), present.toString());
        }
    }
}
