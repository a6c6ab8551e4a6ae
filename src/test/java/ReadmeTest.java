import java.io.IOException;
import java.lang.reflect.Method;
import java.nio.file.Files;
import java.nio.file.Path;
import java.util.ArrayList;
import java.util.Arrays;
import java.util.List;
import java.util.Map;
import java.util.TreeMap;
import java.util.TreeSet;
import java.util.regex.Matcher;
import java.util.regex.Pattern;
import javax.tools.ToolProvider;

/** README.md: its examples answer what stands behind them, its tables name what the class has. */
public final class ReadmeTest {
    private static final Path README = Path.of("README.md");
    private static final Path SOURCE = Path.of("src/main/java/LastUseDesk.java");
    private static final Pattern ANSWERED = Pattern.compile("(\\S.*);\\s+// ([^:]*)(:.*)?");

    public static void main(String[] args) throws Exception {
        String text = Files.readString(README);
        runExamples(text);
        Map<String, List<String>> calls = calls();
        Answers.is(new TreeSet<>(written(calls)), "calls in the tables", tabled(text));
        Answers.is(thrown(), "exceptions in the table", tabledExceptions(text, calls));
        Answers.end();
    }

    // ---- The examples

    /** Lines whose comment says an answer are held against it; the others are run as they are. */
    private static void runExamples(String text) throws Exception {
        StringBuilder methods = new StringBuilder();
        StringBuilder all = new StringBuilder("static void all() {\n");
        int examples = 0;
        for (String block : found("(?s)```java\n(.*?)```", text)) {
            if (block.startsWith("static ")) {
                methods.append(block);
            } else {
                examples++;
                methods.append("static void example").append(examples).append("() {\n");
                methods.append(example(block)).append("}\n");
                all.append("example").append(examples).append("();\n");
            }
        }
        Answers.is(true, "examples are there", examples > 0);
        run("final class ReadmeExamples {\n" + methods + all + "}\n}\n");
    }

    private static String example(String block) {
        StringBuilder lines = new StringBuilder();
        for (String line : block.split("\n")) {
            Matcher answered = ANSWERED.matcher(line);
            if (answered.matches()) {
                String call = answered.group(1);
                String answer = answered.group(2).strip();
                String due = (answer.endsWith("Exception") ? "throws " : "answers ") + answer;
                String quoted = call.replace("\\", "\\\\").replace("\"", "\\\"");
                lines.append(String.format("Answers.check(\"%s\", \"%s\", Answers.told(() -> %s));%n",
                        due, quoted, call));
            } else {
                lines.append(line).append('\n');
            }
        }
        return lines.toString();
    }

    /** Compiled beside the class, as what is not public there can be called only from there. */
    private static void run(String source) throws Exception {
        Path folder = Path.of(ReadmeTest.class.getProtectionDomain().getCodeSource().getLocation()
                .toURI());
        Path file = folder.resolve("ReadmeExamples.java");
        Files.writeString(file, source);
        int result = ToolProvider.getSystemJavaCompiler().run(null, null, null,
                "-cp", folder.toString(), "-d", folder.toString(), file.toString());
        Answers.is(0, "compiling the examples", result);
        if (result == 0) {
            Method all = Class.forName("ReadmeExamples").getDeclaredMethod("all");
            all.setAccessible(true);
            all.invoke(null);
        }
    }

    // ---- The tables

    /** Each call of the face with the names of its parameters. */
    private static Map<String, List<String>> calls() throws IOException {
        Map<String, List<String>> calls = new TreeMap<>();
        Pattern call = Pattern.compile("    public \\w+ (\\w+)\\(([^)]*)\\)");
        Matcher matcher = call.matcher(Files.readString(SOURCE));
        while (matcher.find()) {
            List<String> names = new ArrayList<>();
            for (String parameter : matcher.group(2).split(", ")) {
                if (!parameter.isEmpty()) {
                    names.add(parameter.split(" ")[1]);
                }
            }
            calls.put(matcher.group(1), names);
        }
        return calls;
    }

    private static List<String> written(Map<String, List<String>> calls) {
        List<String> written = new ArrayList<>();
        calls.forEach((name, names) -> written.add(name + "(" + String.join(", ", names) + ")"));
        return written;
    }

    private static TreeSet<String> tabled(String text) {
        return new TreeSet<>(found("(?m)^\\| `(\\w+\\([^)]*\\))` \\| ", text));
    }

    private static TreeSet<String> thrown() {
        TreeSet<String> thrown = new TreeSet<>();
        for (Method method : LastUseDesk.class.getMethods()) {
            if (method.getDeclaringClass() == LastUseDesk.class) {
                Arrays.stream(method.getExceptionTypes()).forEach(each ->
                        thrown.add(method.getName() + " " + each.getSimpleName()));
            }
        }
        return thrown;
    }

    /** A row is of one call, or of all calls with a parameter of some name. */
    private static TreeSet<String> tabledExceptions(String text, Map<String, List<String>> calls) {
        TreeSet<String> tabled = new TreeSet<>();
        Pattern row = Pattern.compile("(?m)^\\| `(\\w+Exception)` \\| .*?`(\\w+)(\\(\\))?` \\|");
        Matcher matcher = row.matcher(text);
        while (matcher.find()) {
            String exception = matcher.group(1);
            String name = matcher.group(2);
            if (matcher.group(3) != null) {
                tabled.add(name + " " + exception);
            } else {
                calls.forEach((call, names) -> {
                    if (names.contains(name)) {
                        tabled.add(call + " " + exception);
                    }
                });
            }
        }
        return tabled;
    }

    private static List<String> found(String pattern, String text) {
        List<String> found = new ArrayList<>();
        Matcher matcher = Pattern.compile(pattern).matcher(text);
        while (matcher.find()) {
            found.add(matcher.group(1));
        }
        return found;
    }
}
