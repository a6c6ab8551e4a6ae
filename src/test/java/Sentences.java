import java.io.IOException;
import java.nio.file.Files;
import java.nio.file.Path;
import java.util.ArrayList;
import java.util.HashSet;
import java.util.List;
import java.util.Set;

/**
 * Tests that bear the number of a promise and the words of the sentence that they test. The words
 * are held against the document, and the document's sentences against the tests that there were.
 */
final class Sentences {
    private static final int PROMISES = 49;
    private static final Path PATH = Path.of("../shared/DOC.md");
    private static final String DOCUMENT = read();
    private static final Set<String> NAMES = new HashSet<>();
    private static final Set<String> QUOTES = new HashSet<>();

    private Sentences() {
    }

    static void test(int promise, String sentence, Runnable test) {
        String name = name(promise, sentence);
        NAMES.add(name);
        QUOTES.add(sentence);
        Answers.under(name, test);
        if (!DOCUMENT.isEmpty() && !(terms() + promise(promise)).contains(sentence)) {
            Answers.check("stands in the document", name, "does not");
        }
    }

    /** Each number, answer and exception of each promise, and each sentence of the terms. */
    static void checkThatNoneIsMissing() {
        if (DOCUMENT.isEmpty()) {
            System.out.println("there is no " + PATH + " to hold the sentences against");
            return;
        }
        for (int promise = 1; promise <= PROMISES; promise++) {
            for (String sentence : linesToTest(promise)) {
                String name = name(promise, sentence);
                Answers.check("is tested", name, NAMES.contains(name) ? "is tested" : "is not");
            }
        }
        for (String sentence : sentencesOfTerms()) {
            boolean tested = QUOTES.stream().anyMatch(sentence::contains);
            Answers.check("is tested", sentence, tested ? "is tested" : "is not");
        }
    }

    private static List<String> linesToTest(int promise) {
        List<String> lines = new ArrayList<>();
        for (String line : promise(promise).split("\n")) {
            if (line.startsWith("- ")) {
                lines.add(line.substring(2));
            } else if (line.startsWith("Returns ") || line.startsWith("Throws ")) {
                lines.add(line);
            }
        }
        if (lines.isEmpty() && promise > 1) {
            Answers.check("says something", "promise " + promise, "is not found");
        }
        return lines;
    }

    private static List<String> sentencesOfTerms() {
        List<String> sentences = new ArrayList<>();
        for (String piece : terms().substring(terms().indexOf("## Terms"))
                .split("(?<=\\.|\\.\\))\\s+")) {
            boolean isTitle = piece.contains("## ") || piece.matches("\\d?\\.?");
            if (!isTitle && !piece.contains("the interface says")) {
                sentences.add(piece);
            }
        }
        return sentences;
    }

    private static String name(int promise, String sentence) {
        return "promise " + promise + ", \"" + sentence + "\"";
    }

    private static String terms() {
        return DOCUMENT.substring(0, DOCUMENT.indexOf("## Promise 1:"));
    }

    private static String promise(int promise) {
        int start = DOCUMENT.indexOf("## Promise " + promise + ":");
        int end = DOCUMENT.indexOf("\n## ", start);
        return start < 0 || end < 0 ? "" : DOCUMENT.substring(start, end);
    }

    /** The document without the marks of code; the empty text if it is not there. */
    private static String read() {
        try {
            return Files.readString(PATH).replace("`", "").replace("\r", "");
        } catch (IOException missing) {
            return "";
        }
    }
}
