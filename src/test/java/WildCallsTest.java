import java.lang.reflect.InvocationTargetException;
import java.lang.reflect.Method;
import java.util.Arrays;
import java.util.Comparator;
import java.util.Random;
import java.util.Set;

/**
 * Rule 7 of ../shared/LANGUAGE.md, and section 5 of the document: whatever numbers a call is given,
 * and however many calls there were, it throws only what the face says, and nothing by itself.
 */
public final class WildCallsTest {
    private static final int DESKS = 20;
    private static final int CALLS = 10_000;
    private static final int[] EDGES = {
        Integer.MIN_VALUE, Integer.MIN_VALUE + 1, -1000, -2, -1, 0, 1, 2, 7, 8, 9, 15, 16, 19, 20, 21, 63,
        64, 99, 100, 101, 255, 256, 300, 301, 800, 801, 999, 1000, 1001, Integer.MAX_VALUE - 1,
        Integer.MAX_VALUE
    };
    private static final String[] TEXTS = {
        "l0;", "s63;", "a5;", "c999;", "x9{", "}", "x2{a1;}", "x9{x9{s8;}}", " ", "\n", "z", "1234"
    };

    public static void main(String[] args) {
        Method[] face = Arrays.stream(LastUseDesk.class.getDeclaredMethods())
                .filter(method -> (method.getModifiers() & 1) != 0)
                .sorted(Comparator.comparing(Method::getName))
                .toArray(Method[]::new);
        for (int seed = 1; seed <= DESKS; seed++) {
            callWildly(new LastUseDesk(), face, new Random(seed), seed);
        }
        Answers.end();
    }

    private static void callWildly(LastUseDesk desk, Method[] face, Random random, int seed) {
        for (int call = 0; call < CALLS; call++) {
            Method method = face[random.nextInt(face.length)];
            Object[] arguments = new Object[method.getParameterCount()];
            int[] words = Desks.words(TEXTS[random.nextInt(TEXTS.length)]);
            boolean isText = method.getName().equals("append") && random.nextInt(4) > 0;
            for (int index = 0; index < arguments.length; index++) {
                arguments[index] = isText ? words[index] : number(random);
            }
            Object thrown = thrownBy(desk, method, arguments);
            boolean allowed = thrown == null
                    || Set.of((Object[]) method.getExceptionTypes()).contains(thrown);
            Answers.check("throws what the face says", "desk " + seed + ", call " + call + ": "
                    + method.getName() + Arrays.toString(arguments),
                    allowed ? "throws what the face says" : "throws " + thrown);
        }
    }

    private static int number(Random random) {
        switch (random.nextInt(4)) {
            case 0:
                return EDGES[random.nextInt(EDGES.length)];
            case 1:
                return random.nextInt();
            default:
                return random.nextInt(random.nextBoolean() ? 3 : 30);
        }
    }

    private static Object thrownBy(LastUseDesk desk, Method method, Object[] arguments) {
        try {
            method.invoke(desk, arguments);
            return null;
        } catch (InvocationTargetException thrown) {
            return thrown.getCause().getClass();
        } catch (IllegalAccessException hidden) {
            return hidden.getClass();
        }
    }
}
