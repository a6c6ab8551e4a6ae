import java.io.IOException;
import java.nio.file.Files;
import java.nio.file.Path;
import java.util.ArrayList;
import java.util.Comparator;
import java.util.HashSet;
import java.util.List;
import java.util.Set;

/**
 * Tests that bear the number of a promise and the words of the sentence that they test. The words
 * are held against the document, and the document's sentences against the tests that there were.
 */
final class Sentences {
    private static final int PROMISES = 49;
    private static final Path PATH = Path.of("../shared/DOC.md");
    private static final String DOCUMENT = read();
    private static final String FREE =
            "\\b(and|or|The constants|what later calls answer is free)\\b";
    private static final Set<String> NAMES = new HashSet<>();
    private static final Set<String> QUOTES = new HashSet<>();

    private Sentences() {
    }

    static void test(int promise, String sentence, Runnable test) {
        String name = name(promise, sentence);
        NAMES.add(name);
        QUOTES.add(sentence);
        Answers.under(name, test);
        if (!DOCUMENT.isEmpty() && !(terms() + promise(promise)).contains(sentence)) {
            Answers.check("stands in the document", name, "does not");
        }
    }

    /** Each line of the document from the first one on, but for titles and what it doesn't promise. */
    static void checkThatNoneIsMissing() {
        if (DOCUMENT.isEmpty()) {
            System.out.println("there is no " + PATH + " to hold the sentences against");
            return;
        }
        for (String sentence : sentences(terms())) {
            checkQuoted(sentence, sentence, QUOTES);
        }
        for (int promise = 1; promise <= PROMISES; promise++) {
            checkPromise(promise);
        }
    }

    /** A promise's lines each have a test of their own; its opening may be quoted in parts. */
    private static void checkPromise(int promise) {
        String[] lines = promise(promise).split("\n");
        if (lines.length < 3) {
            Answers.check("says something", "promise " + promise, "is not found");
            return;
        }
        Set<String> quotes = new HashSet<>(QUOTES);
        quotes.removeIf(quote -> !NAMES.contains(name(promise, quote)));
        String opening = lines[2].replaceFirst("^\\w.*?: ", "");
        for (String sentence : sentences(opening)) {
            checkQuoted(name(promise, sentence), sentence, quotes);
        }
        for (int line = 3; line < lines.length; line++) {
            String name = name(promise, lines[line].replaceFirst("^- ", ""));
            boolean tested = lines[line].isEmpty() || NAMES.contains(name);
            Answers.check("is tested", name, tested ? "is tested" : "is not");
        }
    }

    /** That all words of a sentence are quoted by tests, but for those that only join its parts. */
    private static void checkQuoted(String name, String sentence, Set<String> quotes) {
        List<String> longestFirst = new ArrayList<>(quotes);
        longestFirst.sort(Comparator.comparing(String::length).reversed());
        String rest = sentence;
        for (String quote : longestFirst) {
            rest = rest.replace(quote, " ");
        }
        rest = rest.replaceAll(FREE, " ").replaceAll("[^A-Za-z0-9]+", " ").strip();
        Answers.check("is tested", name, rest.isEmpty() ? "is tested" : "is not: " + rest);
    }

    private static List<String> sentences(String text) {
        List<String> sentences = new ArrayList<>();
        for (String line : text.split("\n")) {
            boolean isTitle = line.matches("#.*|\\d\\. .*|java|text|\\}|\\s*");
            if (!isTitle) {
                sentences.addAll(List.of(line.strip().split("(?<=\\.|\\.\\))\\s+")));
            }
        }
        return sentences;
    }

    /** Lines of the document from its first one up to the promises, without blanks at their ends. */
    static List<String> linesOfTerms(String pattern) {
        List<String> lines = new ArrayList<>();
        for (String line : DOCUMENT.isEmpty() ? new String[0] : terms().split("\n")) {
            if (line.strip().matches(pattern)) {
                lines.add(line.strip());
            }
        }
        return lines;
    }

    private static String name(int promise, String sentence) {
        return "promise " + promise + ", \"" + sentence + "\"";
    }

    private static String terms() {
        return DOCUMENT.substring(0, DOCUMENT.indexOf("## Promise 1:"));
    }

    private static String promise(int promise) {
        int start = DOCUMENT.indexOf("## Promise " + promise + ":");
        int end = DOCUMENT.indexOf("\n## ", start);
        return start < 0 || end < 0 ? "" : DOCUMENT.substring(start, end);
    }

    /** The document without the marks of code; the empty text if it is not there. */
    private static String read() {
        try {
            return Files.readString(PATH).replace("`", "").replace("\r", "");
        } catch (IOException missing) {
            return "";
        }
    }
}
