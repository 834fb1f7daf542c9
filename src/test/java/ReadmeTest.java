import java.io.IOException;
import java.nio.file.Files;
import java.nio.file.Path;
import java.util.Set;
import java.util.TreeSet;
import java.util.regex.MatchResult;
import java.util.regex.Matcher;
import java.util.regex.Pattern;
import java.util.stream.Collectors;
import java.util.stream.Stream;

/** What README.md says holds: its example compiles and answers as its comments say, and its tables name every test. */
public final class ReadmeTest {
    private static final Pattern EXAMPLE = Pattern.compile("```java\n(.*?)```", Pattern.DOTALL);
    private static final Pattern ANSWERS = Pattern.compile("(?m)^ *(desk\\..*\\)); *// = ([-0-9.]+):.*$");
    private static final Pattern THROWS = Pattern.compile("(?m)^ *(desk\\..*\\)); *// throws:.*$");
    private static final Pattern TEST_NAME = Pattern.compile("\\b[A-Z]\\w*Test\\b");
    private static final String PROGRAM = String.join("\n",
            "public final class Example {",
            "static void due(String call, double got, double due) {",
            "if (got != due) throw new AssertionError(call + \" answered \" + got + \", README.md says \" + due);",
            "}",
            "public static void main(String[] args) {",
            "%s",
            "}",
            "}");

    public static void main(String[] args) throws Exception {
        Checks checks = new Checks("README.md");
        String text = Files.readString(Path.of("README.md"));
        exampleHolds(checks, text);
        everyCallHasALine(checks, text);
        everyTestIsNamed(checks, text);
        checks.end();
    }

    private static void exampleHolds(Checks checks, String text) throws Exception {
        Matcher found = EXAMPLE.matcher(text);
        if (!found.find()) {
            checks.same("examples", 0, 1);
            return;
        }
        String lines = found.group(1);
        // A comment of another form would be passed over without a word.
        checks.same("answers in the example", ANSWERS.matcher(lines).results().count(), lines.split("// = ").length - 1);
        checks.same("exceptions in the example", THROWS.matcher(lines).results().count(), 1);
        lines = ANSWERS.matcher(lines).replaceAll("due(\"$1\", $1, $2);");
        lines = THROWS.matcher(lines).replaceAll("$1; throw new AssertionError(\"$1 did not throw\");");
        checks.same("exit code of the example", run(String.format(PROGRAM, lines)), 0);
    }

    private static int run(String program) throws Exception {
        Path directory = Files.createTempDirectory("readme");
        Path source = directory.resolve("Example.java");
        try {
            Files.writeString(source, program);
            String classes = System.getProperty("java.class.path");
            return new ProcessBuilder("java", "-cp", classes, source.toString()).inheritIO().start().waitFor();
        } finally {
            Files.deleteIfExists(source);
            Files.delete(directory);
        }
    }

    private static void everyCallHasALine(Checks checks, String text) {
        Set<String> due = Stream.of(FetchDesk.class.getDeclaredMethods())
                .filter(method -> java.lang.reflect.Modifier.isPublic(method.getModifiers()))
                .map(method -> method.getName() + " with " + method.getParameterCount())
                .collect(Collectors.toSet());
        Set<String> lines = Pattern.compile("(?m)^\\| `(\\w+)\\((.*?)\\)` \\|").matcher(text).results()
                .map(line -> line.group(1) + " with " + line.group(2).split(",").length)
                .collect(Collectors.toSet());
        sameNames(checks, "calls", lines, due);
    }

    private static void everyTestIsNamed(Checks checks, String text) throws IOException {
        try (Stream<Path> files = Files.list(Path.of("src/test/java"))) {
            Set<String> due = files.map(file -> file.getFileName().toString())
                    .filter(name -> name.endsWith("Test.java"))
                    .map(name -> name.replace(".java", ""))
                    .collect(Collectors.toSet());
            Set<String> named = TEST_NAME.matcher(text).results().map(MatchResult::group).collect(Collectors.toSet());
            sameNames(checks, "tests", named, due);
        }
    }

    private static void sameNames(Checks checks, String what, Set<String> named, Set<String> due) {
        Set<String> tooMany = new TreeSet<>(named);
        tooMany.removeAll(due);
        checks.same(what + " that are named and not there: " + tooMany, tooMany.size(), 0);
        Set<String> wanting = new TreeSet<>(due);
        wanting.removeAll(named);
        checks.same(what + " that are there and not named: " + wanting, wanting.size(), 0);
    }
}
