import java.io.IOException;
import java.io.UncheckedIOException;
import java.nio.file.Files;
import java.nio.file.Path;
import java.util.List;

/** The public face: each of its lines and headings stands in the class's source, in its order. */
final class FaceSentences {
    private static final Path SOURCE = Path.of("src/main/java/LastUseDesk.java");
    private static final int FIRST_METHOD = 2;

    private FaceSentences() {
    }

    static void all() {
        String source = source();
        int from = 0;
        int promise = FIRST_METHOD;
        for (String line : Sentences.linesOfTerms("(import|public) .*")) {
            boolean isMethod = line.contains("(") && !line.contains("LastUseDesk()");
            from = declared(isMethod ? promise : 1, line, source, from);
            promise += isMethod ? 1 : 0;
        }
        for (String line : Sentences.linesOfTerms("Ahead of the calls .*")) {
            heading(line, source);
        }
    }

    private static int declared(int promise, String line, String source, int from) {
        String written = line.contains("(") ? line.replaceFirst(";$", " {") : line;
        int found = source.indexOf(written, from);
        Sentences.test(promise, line, () -> {
            Answers.is(true, "stands behind the line ahead of it", found >= 0);
            Answers.is(-1, "a second one", source.indexOf(written, found + 1));
        });
        return Math.max(from, found);
    }

    /** The calls of a heading stand behind it, and ahead of the next one. */
    private static void heading(String line, String source) {
        String[] parts = line.replace("Ahead of the calls ", "").split(" the interface says: ");
        Sentences.test(1, line, () -> {
            int start = source.indexOf("// " + parts[1].replaceFirst("\\.$", " "));
            int end = source.indexOf("// ---- ", start + 1);
            for (String call : parts[0].split(", ")) {
                int found = source.indexOf(" " + call + "(", source.indexOf("public LastUseDesk()"));
                Answers.is(true, call + " is under it", start >= 0 && found > start && found < end);
            }
        });
    }

    /** The class's text with a single blank wherever there are more, or a line ends. */
    private static String source() {
        try {
            return Files.readString(SOURCE).replaceAll("\\s+", " ");
        } catch (IOException missing) {
            throw new UncheckedIOException(missing);
        }
    }
}
