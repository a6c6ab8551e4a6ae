import com.sun.source.tree.CompilationUnitTree;
import com.sun.source.util.JavacTask;
import com.sun.source.util.Trees;
import java.io.IOException;
import java.net.URI;
import java.nio.file.Files;
import java.nio.file.Path;
import java.util.List;
import javax.tools.JavaCompiler;
import javax.tools.JavaFileObject;
import javax.tools.SimpleJavaFileObject;
import javax.tools.ToolProvider;

/**
 * The rules of ../shared/LANGUAGE.md, as far as the class's source shows whether they are kept; and
 * that each of them is noted where it is broken. FaceTest has more of rule 1, WildCallsTest rule 7.
 */
public final class LanguageTest {
    private static final Path SOURCE = Path.of("src/main/java/LastUseDesk.java");

    public static void main(String[] args) throws IOException {
        Answers.is(List.of(), "what the class breaks", broken("LastUseDesk", Files.readString(SOURCE)));
        keptBySamples();
        brokenFiles();
        brokenTypesAndFields();
        brokenLibrary();
        brokenExceptions();
        brokenLoopsAndSizes();
        Answers.end();
    }

    private static void keptBySamples() throws IOException {
        keeps("private int kept(int most) { return Math.max(most, 1); }");
        keeps("private static final class Kept { private final int[] row = new int[3]; }");
        keeps("private static final int[] ROW = {1, 2};");
        keeps("void kept(int n) { for (int i = 0; i < n; i++) { if (n < 0) "
                + "{ throw new IllegalStateException(\"a text\"); } } }");
        keeps("private final java.util.List<Integer> list = new java.util.ArrayList<>();");
    }

    private static void brokenFiles() throws IOException {
        Answers.is(true, "a package is noted", breaks(1, "package p; public final class Sample { }"));
        Answers.is(true, "an open class is noted", breaks(1, "public class Sample { }"));
        Answers.is(true, "a second class is noted",
                breaks(1, "public final class Sample { } class Other { }"));
        Answers.is(true, "an import is noted",
                breaks(4, "import java.util.HashMap; public final class Sample { }"));
        breaksIn(1, "public static final class Inside { }");
        breaksIn(1, "private final class Inside { }");
        breaksIn(2, "int broken() { class Local { } return 1; }");
        breaksIn(2, "Runnable broken() { return () -> { }; }");
        breaksIn(2, "Runnable broken() { return this::broken; }");
    }

    private static void brokenTypesAndFields() throws IOException {
        breaksIn(3, "private Object broken;");
        breaksIn(3, "private String[][] broken;");
        breaksIn(3, "private java.util.List<String> broken;");
        breaksIn(3, "java.util.LinkedHashMap<Integer, Integer> broken() { return null; }");
        breaksIn(3, "double broken(double a) { return a % 2; }");
        breaksIn(5, "private static int broken = 1;");
        breaksIn(5, "private static final int[] BROKEN = new int[4];");
        breaksIn(5, "private static final int BROKEN = Math.max(1, 2);");
        breaksIn(5, "static { }");
    }

    private static void brokenLibrary() throws IOException {
        breaksIn(4, "long broken() { return System.nanoTime(); }");
        breaksIn(4, "int broken(int a) { return Math.addExact(a, 1); }");
        breaksIn(4, "double broken(double a) { return Math.sqrt(a); }");
        breaksIn(4, "int broken() { return Integer.MAX_VALUE; }");
        breaksIn(4, "char broken() { return '\u00e9'; }");
        breaksIn(4, "int broken(String a) { return a.hashCode(); }");
        breaksIn(4, "boolean broken(Sample a) { return a.equals(this); }");
        breaksIn(10, "String broken(int a) { return \"a\" + a; }");
        breaksIn(10, "void broken(String a) { a += 1; }");
        breaksIn(6, "boolean broken(String a, String b) { return a == b; }");
        breaksIn(6, "boolean broken(Integer a, Integer b) { return a != b; }");
    }

    private static void brokenExceptions() throws IOException {
        breaksIn(6, "void broken() { throw new ArrayIndexOutOfBoundsException(); }");
        breaksIn(6, "void broken(String a) { throw new RuntimeException(a); }");
        breaksIn(6, "Sample() { throw new IllegalStateException(); }");
        breaksIn(6, "void broken() { try { broken(); } finally { broken(); } }");
        breaksIn(6, "void broken() { try { broken(); } catch (NullPointerException e) { } }");
        breaksIn(6, "void broken() { try { throw new RuntimeException(); }"
                + " catch (RuntimeException e) { } }");
        breaksIn(6, "void broken() { synchronized (this) { } }");
        breaksIn(6, "synchronized void broken() { }");
        breaksIn(6, "void broken(int a) { assert a > 0; }");
        breaksIn(6, "int broken(Comparable<Integer> a) { return (Integer) a; }");
    }

    private static void brokenLoopsAndSizes() throws IOException {
        breaksIn(8, "int broken(int a) { return a < 1 ? 0 : broken(a - 1); }");
        breaksIn(9, "void broken() { while (true) { } }");
        breaksIn(9, "void broken() { for (;;) { } }");
        breaksIn(9, "void broken(int a) { while (a < 3 || a != 5) { } }");
        breaksIn(9, "void broken(boolean a) { do { } while (a); }");
        breaksIn(11, "void broken(int a, int b, int c, int d, int e, int f, int g, int h) { }");
        breaksIn(11, "void broken() {" + "\n".repeat(60) + "}");
        breaksIn(11, numbered("private int f", 21, ", f") + ";");
        String inside = "private static final class C";
        breaksIn(11, numbered(inside, 12, " { } " + inside) + " { }");
        StringBuilder chain = new StringBuilder("void m0() { }");
        for (int call = 1; call <= 8; call++) {
            chain.append(" void m" + call + "() { m" + (call - 1) + "(); }");
        }
        breaksIn(11, chain.toString());
        breaksIn(12, "Sample broken() { return new Sample(); }");
        breaksIn(12, "int[] broken() { return new int[3]; }");
    }

    private static String numbered(String ahead, int most, String between) {
        StringBuilder text = new StringBuilder(ahead).append(1);
        for (int number = 2; number <= most; number++) {
            text.append(between).append(number);
        }
        return text.toString();
    }

    private static String sample(String member) {
        return "public final class Sample { " + member + " }";
    }

    private static void keeps(String member) throws IOException {
        Answers.is(List.of(), "what is broken by " + member, broken("Sample", sample(member)));
    }

    private static void breaksIn(int rule, String member) throws IOException {
        Answers.is(true, "rule " + rule + " is noted in " + member, breaks(rule, sample(member)));
    }

    private static boolean breaks(int rule, String source) throws IOException {
        return broken("Sample", source).stream()
                .anyMatch(each -> each.matches("(?s)rule " + rule + "[,:].*"));
    }

    private static List<String> broken(String className, String source) throws IOException {
        JavaCompiler compiler = ToolProvider.getSystemJavaCompiler();
        JavaFileObject file = new SimpleJavaFileObject(
                URI.create("string:///" + className + ".java"), JavaFileObject.Kind.SOURCE) {
            @Override
            public CharSequence getCharContent(boolean ignoreErrors) {
                return source;
            }
        };
        JavacTask task = (JavacTask) compiler.getTask(null, null, problem -> { },
                List.of("-proc:none"), null, List.of(file));
        CompilationUnitTree unit = task.parse().iterator().next();
        task.analyze();
        return new LanguageRules(Trees.instance(task), className).brokenBy(unit);
    }
}
