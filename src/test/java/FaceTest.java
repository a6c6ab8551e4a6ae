import java.lang.reflect.Constructor;
import java.lang.reflect.Field;
import java.lang.reflect.Method;
import java.lang.reflect.Modifier;
import java.util.Arrays;
import java.util.HashSet;
import java.util.Set;
import java.util.TreeSet;

/** The public face: each member of the document with what it throws, and no other one. */
public final class FaceTest {
    private static final String A = " IllegalArgumentException";
    private static final String S = " IllegalStateException";
    private static final String I = " IndexOutOfBoundsException";
    private static final String N = " NoSuchElementException";
    private static final String[] FACE = {
        "int put 3" + A, "int putIfAbsent 3" + A, "int get 2" + A, "int getOrDefault 3" + A,
        "int remove 2" + A, "int clear 1" + A, "int setBound 1" + A, "boolean hasKey 2" + A,
        "boolean hasValue 2" + A, "int size 1" + A, "int keyAt 2" + A + I, "int valueAt 2" + A + I,
        "int placeOf 2" + A, "int sum 1" + A, "int putOut 0", "int lastPutOut 0",
        "int beginCursor 1" + A, "boolean hasNext 1" + A, "int next 1" + A + S + N,
        "int takeOut 1" + A + S, "int request 1" + A + S, "int clearCaches 0", "int hits 1" + A,
        "int cached 1" + A, "boolean isCached 2" + A, "int cachedAt 2" + A + I, "int requests 0",
        "int requestAt 1" + I, "int distanceOf 1" + I, "int nearer 1" + A, "int leastCache 1" + A,
        "int append 5" + S, "int clearTape 0", "int run 0" + S + A, "int errorPosition 0",
        "int setFrames 1" + A, "int flush 0", "int accumulator 0", "int wordAt 1" + A,
        "int discAt 1" + A, "int resident 0", "int residentAt 1" + I, "boolean isDirty 1" + A,
        "int faults 0", "int writes 0", "float hitShare 1" + A, "double meanDistance 0",
        "int errors 0"
    };

    public static void main(String[] args) {
        Set<String> methods = new TreeSet<>();
        Set<String> names = new HashSet<>();
        for (Method method : LastUseDesk.class.getDeclaredMethods()) {
            if (!Modifier.isPrivate(method.getModifiers())) {
                methods.add(signature(method));
                names.add(method.getName());
            }
        }
        Answers.due(new TreeSet<>(Arrays.asList(FACE)), "the methods", () -> methods);
        Answers.due(Modifier.PUBLIC | Modifier.FINAL, "the class",
                () -> LastUseDesk.class.getModifiers());
        Constructor<?>[] constructors = LastUseDesk.class.getDeclaredConstructors();
        Answers.due("[public LastUseDesk()]", "constructors", () -> Arrays.toString(constructors));
        for (Field field : LastUseDesk.class.getDeclaredFields()) {
            Answers.due(!field.getName().equals("NONE"), field.getName() + " is private",
                    () -> Modifier.isPrivate(field.getModifiers()));
        }
        for (Class<?> inside : LastUseDesk.class.getDeclaredClasses()) {
            Answers.due(true, inside + " is private and static",
                    () -> (inside.getModifiers() & 10) == 10);
        }
        privateNames(LastUseDesk.class, names);
        Answers.end();
    }

    private static String signature(Method method) {
        StringBuilder text = new StringBuilder();
        text.append(method.getReturnType()).append(' ').append(method.getName());
        text.append(' ').append(method.getParameterCount());
        for (Class<?> parameter : method.getParameterTypes()) {
            text.append(parameter == int.class ? "" : " " + parameter);
        }
        for (Class<?> thrown : method.getExceptionTypes()) {
            text.append(' ').append(thrown.getSimpleName());
        }
        return text.toString();
    }

    private static void privateNames(Class<?> where, Set<String> names) {
        for (Method method : where.getDeclaredMethods()) {
            if (Modifier.isPrivate(method.getModifiers())) {
                Answers.due(false, method + " bears the name of a public one",
                        () -> names.contains(method.getName()));
            }
        }
        for (Class<?> inside : where.getDeclaredClasses()) {
            privateNames(inside, names);
        }
    }
}
