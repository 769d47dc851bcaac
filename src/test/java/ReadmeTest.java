import java.io.IOException;
import java.lang.reflect.Method;
import java.lang.reflect.Modifier;
import java.net.URL;
import java.net.URLClassLoader;
import java.nio.file.Files;
import java.nio.file.Path;
import java.util.ArrayList;
import java.util.Comparator;
import java.util.List;
import java.util.regex.Matcher;
import java.util.regex.Pattern;
import java.util.stream.Collectors;
import java.util.stream.Stream;
import javax.tools.ToolProvider;

/** README.md: its example compiles and answers what its comments say, and it leaves out no call and no test. */
final class ReadmeTest {
    private static final Checks CHECKS = new Checks("ReadmeTest");
    private static final Pattern ANSWERED =
            Pattern.compile("(?:int (\\w+) = )?(x\\.\\w+\\(.*\\)); +// (-?\\d+|true|false): .*");

    public static void main(String[] args) throws IOException, ReflectiveOperationException {
        List<String> readme = Files.readAllLines(Path.of("README.md"));
        List<String> example = example(readme);
        exampleAnswersAsItSays(example);
        everyCallIsUsedAndTold(readme, example);
        everyTestIsTold(readme);
        CHECKS.end();
    }

    private static List<String> example(List<String> readme) {
        int from = readme.indexOf("```java") + 1;
        int length = readme.subList(from, readme.size()).indexOf("```");
        return readme.subList(from, from + Math.max(length, 0));
    }

    private static void exampleAnswersAsItSays(List<String> example) throws IOException, ReflectiveOperationException {
        List<String> calls = new ArrayList<>();
        List<String> due = new ArrayList<>();
        StringBuilder body = new StringBuilder();
        for (String line : example) {
            Matcher m = ANSWERED.matcher(line);
            if (m.matches()) {
                String kept = m.group(1);
                body.append(kept == null ? "" : "int " + kept + " = " + m.group(2) + ";\n");
                body.append("answers.add(String.valueOf(").append(kept == null ? m.group(2) : kept).append("));\n");
                calls.add(m.group(2));
                due.add(m.group(3));
            } else {
                body.append(line).append('\n');
            }
        }
        List<?> got = run(body.toString());
        CHECKS.same("the example's answers", got.size(), due.size());
        for (int i = 0; i < Math.min(got.size(), due.size()); i++) {
            CHECKS.holds(calls.get(i) + " answered " + got.get(i) + ", but README.md says " + due.get(i) + ": that",
                    due.get(i).equals(got.get(i)));
        }
    }

    private static List<?> run(String body) throws IOException, ReflectiveOperationException {
        Path room = Files.createTempDirectory("readme");
        try {
            Path source = room.resolve("Example.java");
            Files.writeString(source, "public class Example {\n"
                    + "public static java.util.List<String> run() {\n"
                    + "java.util.List<String> answers = new java.util.ArrayList<>();\n"
                    + body + "return answers;\n}\n}\n");
            int failed = ToolProvider.getSystemJavaCompiler().run(null, null, null, "-d", room.toString(),
                    "-cp", System.getProperty("java.class.path"), source.toString());
            CHECKS.same("the compiler of the example", failed, 0);
            return failed == 0 ? answers(room) : List.of();
        } finally {
            remove(room);
        }
    }

    private static List<?> answers(Path room) throws IOException, ReflectiveOperationException {
        try (URLClassLoader loader = new URLClassLoader(new URL[] {room.toUri().toURL()})) {
            return (List<?>) loader.loadClass("Example").getMethod("run").invoke(null);
        }
    }

    private static void remove(Path room) throws IOException {
        List<Path> all;
        try (Stream<Path> inside = Files.walk(room)) {
            all = inside.sorted(Comparator.reverseOrder()).collect(Collectors.toList());
        }
        for (Path path : all) {
            Files.delete(path);
        }
    }

    private static void everyCallIsUsedAndTold(List<String> readme, List<String> example) {
        for (Method m : CountRounds.class.getDeclaredMethods()) {
            if (Modifier.isPublic(m.getModifiers())) {
                String call = m.getName() + "(";
                CHECKS.holds("the example uses " + call + "..): this",
                        example.stream().anyMatch(line -> line.contains("x." + call)));
                List<String> rows = readme.stream().filter(line -> line.startsWith("| `" + call))
                        .collect(Collectors.toList());
                CHECKS.same("rows of the table for " + call + "..)", rows.size(), 1);
                for (String row : rows) {
                    String parameters = row.substring(row.indexOf('(') + 1, row.indexOf(')'));
                    CHECKS.same("parameters in the row for " + call + "..)", parameters.split(", ").length,
                            m.getParameterCount());
                }
            }
        }
    }

    private static void everyTestIsTold(List<String> readme) throws IOException {
        try (Stream<Path> files = Files.list(Path.of("src", "test", "java"))) {
            files.map(file -> file.getFileName().toString()).filter(name -> name.endsWith("Test.java"))
                    .map(name -> name.replace(".java", ""))
                    .forEach(name -> CHECKS.same("rows of the table for " + name,
                            readme.stream().filter(line -> line.startsWith("| " + name + " |")).count(), 1));
        }
    }
}
