import java.lang.reflect.Field;

/**
 * What errors() counts. From outside it is always 0, so these tests reach into a desk and make what
 * it holds wrong: if a field of the class gets another name, it has to be named so here, too.
 */
final class ErrorsSentences {
    private ErrorsSentences() {
    }

    static void all() {
        Sentences.test(49, "Holds the caches against the record: the caches whose hits are not as many as"
                + " the requests with a distance less than their bound, and those but the greatest one"
                + " that have a key which the next greater one has not.", () -> {
            wrongHits();
            wrongRecord();
            wrongKeys();
        });
        Sentences.test(49, "Returns how many caches there are of the one or the other sort, one of both"
                + " sorts counted once; always 0.", ErrorsSentences::bothSorts);
    }

    /** A desk whose caches are full, and whose requests have the distances 0 to 8. */
    private static LastUseDesk asked() {
        LastUseDesk desk = new LastUseDesk();
        for (int others = 0; others <= 8; others++) {
            for (int key = 0; key <= others; key++) {
                desk.request(key);
            }
            desk.request(0);
        }
        Answers.is(0, "errors", desk.errors());
        return desk;
    }

    private static void wrongHits() {
        LastUseDesk all = asked();
        for (int cache = 1; cache <= 8; cache++) {
            LastUseDesk desk = asked();
            addHits(desk, cache, 1);
            Answers.is(1, "errors with a hit more in " + cache, desk.errors());
            addHits(desk, cache, -2);
            Answers.is(1, "errors with a hit less in " + cache, desk.errors());
            addHits(all, cache, 1);
            Answers.is(cache, "errors with a hit more in all up to " + cache, all.errors());
        }
    }

    /** A request of the distance 2 is a hit in the caches from 3 on, one of 5 in those from 6 on. */
    private static void wrongRecord() {
        LastUseDesk desk = asked();
        int[] distances = (int[]) in(in(desk, "log"), "distances");
        for (int request = 0; request < desk.requests(); request++) {
            if (desk.distanceOf(request) == 2) {
                distances[request] = 5;
                break;
            }
        }
        Answers.is(3, "errors with a distance 5 for 2", desk.errors());
    }

    private static void wrongKeys() {
        for (int cache = 1; cache <= 8; cache++) {
            for (int place = 0; place < cache; place += cache - 1 > 0 ? cache - 1 : 1) {
                LastUseDesk desk = asked();
                keys(desk, cache)[place] = 99;
                int without = cache < 8 ? 1 : 0;
                int smallerHasIt = place > 0 || cache == 1 ? 1 : 0;
                int smaller = cache > 1 ? smallerHasIt : 0;
                Answers.is(without + smaller, "errors with a key changed in " + cache + " at " + place,
                        desk.errors());
            }
        }
    }

    private static void bothSorts() {
        LastUseDesk once = asked();
        keys(once, 4)[0] = 99;
        addHits(once, 4, 1);
        Answers.is(1, "errors with both sorts in one cache", once.errors());
        LastUseDesk twice = asked();
        keys(twice, 4)[0] = 99;
        addHits(twice, 8, 1);
        Answers.is(2, "errors with the sorts in two caches", twice.errors());
    }

    private static void addHits(LastUseDesk desk, int cache, int more) {
        Object chosen = ((Object[]) in(desk, "caches"))[cache - 1];
        try {
            Field hitCount = field(chosen, "hitCount");
            hitCount.setInt(chosen, hitCount.getInt(chosen) + more);
        } catch (ReflectiveOperationException missing) {
            throw new IllegalStateException(missing);
        }
    }

    private static int[] keys(LastUseDesk desk, int cache) {
        Object chosen = ((Object[]) in(desk, "caches"))[cache - 1];
        return (int[]) in(in(chosen, "order"), "keys");
    }

    private static Object in(Object object, String name) {
        try {
            return field(object, name).get(object);
        } catch (ReflectiveOperationException missing) {
            throw new IllegalStateException(missing);
        }
    }

    private static Field field(Object object, String name) throws ReflectiveOperationException {
        Field field = object.getClass().getDeclaredField(name);
        field.setAccessible(true);
        return field;
    }
}
