import java.io.IOException;
import java.net.URL;
import java.net.URLClassLoader;
import java.nio.file.Files;
import java.nio.file.Path;
import java.util.ArrayList;
import java.util.List;
import java.util.regex.Matcher;
import java.util.regex.Pattern;
import java.util.stream.Stream;
import javax.tools.ToolProvider;

/** README.md: the lines of its example answer what stands behind them, and its tables leave out no test. */
public final class ReadmeTest {
    private static final Path README = Path.of("README.md"), TESTS = Path.of("src/test/java");
    private static final Pattern EXAMPLE = Pattern.compile("(?s)```java\n(.*?)```");
    private static final Pattern LINE = Pattern.compile("(?:int (\\w+) = )?(g\\.(\\w+)\\(.*\\)); +// (-?\\d+): .+");
    private static final String MADE = "GardenRules g = new GardenRules();";
    private static final Due DUE = new Due();

    private final List<String> calls = new ArrayList<>();
    private final List<String> names = new ArrayList<>();
    private final List<Integer> wants = new ArrayList<>();
    private final StringBuilder body = new StringBuilder();

    public static void main(String[] args) throws Exception {
        String readme = Files.readString(README);
        new ReadmeTest().exampleAnswersAsItSays(readme);
        tablesNameEachTest(readme);
        DUE.end();
    }

    private void exampleAnswersAsItSays(String readme) throws Exception {
        Matcher example = EXAMPLE.matcher(readme);
        if (!example.find()) {
            DUE.due("examples in README.md", 0, 1);
            return;
        }
        example.group(1).lines().forEach(this::readLine);
        int[] answers = answersOfTheExample();
        for (int i = 0; i < calls.size(); i++) {
            DUE.due("README.md: " + calls.get(i), answers[i], wants.get(i));
        }
        for (String name : List.of("show", "shown", "fill", "tank", "rule", "ask", "act", "run", "amount", "tick",
                "failed", "count", "why")) {
            DUE.due(name + "() stands in the example", names.contains(name) ? 1 : 0, 1);
        }
    }

    private void readLine(String line) {
        Matcher m = LINE.matcher(line);
        if (m.matches()) {
            body.append(m.group(1) == null ? "" : "int " + m.group(1) + " = ");
            body.append("answers[").append(calls.size()).append("] = ").append(m.group(2)).append(";\n");
            calls.add(m.group(2));
            names.add(m.group(3));
            wants.add(Integer.valueOf(m.group(4)));
        } else {
            DUE.due("README.md tells an answer behind: " + line, line.equals(MADE) ? 1 : 0, 1);
        }
    }

    private int[] answersOfTheExample() throws Exception {
        Path room = Files.createTempDirectory("readme");
        try {
            Path source = room.resolve("Example.java");
            Files.writeString(source, "public final class Example { public static int[] answers() {\n"
                + "int[] answers = new int[" + calls.size() + "];\n" + MADE + "\n" + body + "return answers; } }\n");
            int code = ToolProvider.getSystemJavaCompiler().run(null, null, null, "-d", room.toString(),
                "-cp", System.getProperty("java.class.path"), source.toString());
            DUE.due("README.md's example compiles, exit code", code, 0);
            try (URLClassLoader loader = new URLClassLoader(new URL[] {room.toUri().toURL()})) {
                return (int[]) loader.loadClass("Example").getMethod("answers").invoke(null);
            }
        } finally {
            remove(room);
        }
    }

    private static void remove(Path room) throws IOException {
        try (Stream<Path> files = Files.list(room)) {
            for (Path file : files.toList()) {
                Files.delete(file);
            }
        }
        Files.delete(room);
    }

    private static void tablesNameEachTest(String readme) throws IOException {
        try (Stream<Path> files = Files.list(TESTS)) {
            for (Path file : files.toList()) {
                String name = file.getFileName().toString().replace(".java", "");
                boolean told = Pattern.compile("\\b" + name + "\\b").matcher(readme).find();
                DUE.due("README.md names " + name, told || name.equals("Due") ? 1 : 0, 1);
            }
        }
    }
}
