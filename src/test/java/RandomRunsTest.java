import java.lang.reflect.InvocationTargetException;
import java.lang.reflect.Method;
import java.util.ArrayList;
import java.util.Arrays;
import java.util.Comparator;
import java.util.List;
import java.util.Random;

/** All promises: random runs of at most 512 calls, each call held against the Reference. */
public final class RandomRunsTest {
    private static final int RUNS = 600;
    private static final int CALLS = 512;
    private static final String[] PIECES = {
        "l", "s", "a", "c", "x", ";", "{", "}", " ", "\n", "0", "7", "63", "64", "999", "1000",
        "z", "l0;", "l1;", "l5;", "l9;", "a2;", "a6;", "s3;", "s8;", "s12;", "c5;", "x2{", "x9{",
        "x3{a1;}", "x4{s5;a5;}", "}", "}", "a 63;", "s60 ;", "\u00e9"
    };

    private final Random random;
    private final LastUseDesk desk = new LastUseDesk();
    private final Reference reference = new Reference();
    private final List<String> calls = new ArrayList<>();
    private final Method[] face;
    private final int keys;

    private RandomRunsTest(long seed, Method[] face) {
        this.random = new Random(seed);
        this.face = face;
        // Few keys make hits, places in common and full bounded maps likely; many make long orders.
        this.keys = new int[] {3, 6, 12, 100}[random.nextInt(4)];
    }

    public static void main(String[] args) {
        Method[] face = LastUseDesk.class.getDeclaredMethods();
        face = Arrays.stream(face)
                .filter(method -> (method.getModifiers() & 1) != 0)
                .sorted(Comparator.comparing(Method::getName))
                .toArray(Method[]::new);
        for (int seed = 1; seed <= RUNS; seed++) {
            new RandomRunsTest(seed, face).go(seed);
        }
        Answers.end();
    }

    private void go(int seed) {
        boolean programs = random.nextInt(3) > 0;
        while (calls.size() < CALLS) {
            if (programs && random.nextInt(12) == 0) {
                runProgram(seed);
            } else {
                Method method = face[random.nextInt(face.length)];
                if (!isRare(method.getName()) || random.nextInt(12) == 0) {
                    call(seed, method, arguments(method));
                }
            }
        }
    }

    /** Calls that empty much: too many of them would leave little to be wrong about. */
    private static boolean isRare(String name) {
        return name.equals("clear") || name.equals("setBound") || name.equals("clearCaches")
                || name.equals("clearTape") || name.equals("setFrames") || name.equals("run")
                || name.equals("append");
    }

    private void runProgram(int seed) {
        StringBuilder text = new StringBuilder();
        boolean fits = random.nextInt(3) > 0;
        int items = random.nextInt(12);
        for (int item = 0; item < items; item++) {
            text.append(fits ? item(0) : PIECES[random.nextInt(PIECES.length)]);
        }
        for (int from = 0; from < text.length(); from += 20) {
            int to = Math.min(text.length(), from + 20);
            int[] words = Desks.words(text.substring(from, to));
            call(seed, method("append"), Arrays.stream(words).boxed().toArray());
        }
        call(seed, method("run"), new Object[0]);
        call(seed, method("errorPosition"), new Object[0]);
    }

    private String item(int depth) {
        if (depth < 4 && random.nextInt(4) == 0) {
            StringBuilder loop = new StringBuilder("x");
            loop.append(1 + random.nextInt(random.nextBoolean() ? 9 : 3)).append('{');
            int items = random.nextInt(4);
            for (int item = 0; item < items; item++) {
                loop.append(item(depth + 1));
            }
            return loop.append('}').toString();
        }
        char letter = "lsac".charAt(random.nextInt(4));
        int number = random.nextInt(letter == 'c' ? 1000 : Math.min(64, 4 * keys));
        return letter + "" + number + ";";
    }

    private Method method(String name) {
        return Arrays.stream(face).filter(each -> each.getName().equals(name)).findFirst().get();
    }

    private Object[] arguments(Method method) {
        Object[] arguments = new Object[method.getParameterCount()];
        for (int index = 0; index < arguments.length; index++) {
            arguments[index] = argument(method.getName(), index);
        }
        return arguments;
    }

    private int argument(String name, int index) {
        if (random.nextInt(60) == 0) {
            return random.nextBoolean() ? random.nextInt() : random.nextInt(1103) - 2;
        }
        if (name.equals("append")) {
            return random.nextInt(0x7f) << (8 * random.nextInt(4));
        }
        boolean ofMap = face(name).startsWith("put(") || face(name).matches("(.*)\\(map.*");
        if (ofMap && index == 0) {
            return random.nextInt(2);
        }
        switch (name) {
            case "put":
            case "putIfAbsent":
                return index == 1 ? random.nextInt(keys) : random.nextInt(random.nextBoolean() ? 5 : 1000);
            case "hasValue":
                return random.nextInt(random.nextBoolean() ? 5 : 1000);
            case "keyAt":
            case "valueAt":
                return random.nextInt(keys + 2) - 1;
            case "setBound":
                return 1 + random.nextInt(random.nextBoolean() ? 5 : 20);
            case "setFrames":
            case "hits":
            case "cached":
            case "hitShare":
                return 1 + random.nextInt(8);
            case "isCached":
            case "cachedAt":
                return index == 0 ? 1 + random.nextInt(8) : random.nextInt(Math.min(10, keys));
            case "requestAt":
            case "distanceOf":
                return random.nextInt(reference.requests() + 2) - 1;
            case "residentAt":
                return random.nextInt(5) - 1;
            case "wordAt":
            case "discAt":
                return random.nextInt(64);
            case "isDirty":
                return random.nextInt(16);
            case "leastCache":
                return random.nextInt(reference.hits(8) + 2);
            default:
                return random.nextInt(keys);
        }
    }

    /** A call's name with the names of its parameters, as far as the choice of numbers asks for them. */
    private static String face(String name) {
        String ofMaps = " put putIfAbsent get getOrDefault remove clear hasKey hasValue size keyAt"
                + " valueAt placeOf sum beginCursor hasNext next takeOut ";
        return ofMaps.contains(" " + name + " ") ? name + "(map" : name + "(";
    }

    private void call(int seed, Method method, Object[] arguments) {
        if (calls.size() >= CALLS) {
            return;
        }
        String text = method.getName() + Arrays.toString(arguments);
        calls.add(text);
        String due = told(reference, method, arguments);
        String told = told(desk, method, arguments);
        Answers.check(due, "run " + seed + ", call " + calls.size() + ": " + text, told);
    }

    private static String told(Object object, Method method, Object[] arguments) {
        try {
            Method own = object.getClass().getMethod(method.getName(), method.getParameterTypes());
            return "answers " + own.invoke(object, arguments);
        } catch (InvocationTargetException thrown) {
            return "throws " + thrown.getCause().getClass().getSimpleName();
        } catch (ReflectiveOperationException missing) {
            return "is missing";
        }
    }
}
