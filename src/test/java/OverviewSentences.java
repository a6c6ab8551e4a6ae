import java.util.ArrayList;
import java.util.LinkedHashMap;
import java.util.List;
import java.util.Map;

/** The document's first sentence: desks beside maps of the library in the order of access. */
final class OverviewSentences {
    private static final String FIRST = "Caches by last use, kept as java.util.LinkedHashMaps in the"
            + " order of access: a free map and a bounded one that puts out its eldest pair, eight"
            + " caches of all sizes that are fed alike, and a machine whose pages of memory lie in such"
            + " a cache.";
    /** Numbers that come back after few and after many others. */
    private static final int[] KEYS = {3, 1, 4, 1, 5, 9, 2, 6, 5, 3, 5, 8, 9, 7, 9, 3, 2, 3, 8, 4, 6};

    private OverviewSentences() {
    }

    static void all() {
        Sentences.test(2, FIRST, OverviewSentences::freeMap);
        Sentences.test(2, FIRST, OverviewSentences::boundedMap);
        Sentences.test(22, FIRST, OverviewSentences::caches);
        Sentences.test(43, FIRST, OverviewSentences::pages);
    }

    private static final class Bounded extends LinkedHashMap<Integer, Integer> {
        private static final long serialVersionUID = 1L;
        private final int bound;

        Bounded(int bound) {
            super(16, 0.75f, true);
            this.bound = bound;
        }

        @Override
        protected boolean removeEldestEntry(Map.Entry<Integer, Integer> eldest) {
            return size() > bound;
        }

        List<Integer> order() {
            return new ArrayList<>(keySet());
        }
    }

    private static void freeMap() {
        LastUseDesk desk = new LastUseDesk();
        Bounded library = new Bounded(Integer.MAX_VALUE);
        for (int key : KEYS) {
            desk.put(0, key, 10 * key);
            library.put(key, 10 * key);
            desk.get(0, 4);
            library.get(4);
            Answers.is(library.order(), "the free map behind " + key, Desks.keys(desk, 0));
        }
    }

    private static void boundedMap() {
        for (int bound = 1; bound <= 20; bound++) {
            LastUseDesk desk = new LastUseDesk();
            Bounded library = new Bounded(bound);
            desk.setBound(bound);
            for (int key : KEYS) {
                desk.putIfAbsent(1, key, 10 * key);
                library.putIfAbsent(key, 10 * key);
                String call = "the map bound to " + bound + " behind " + key;
                Answers.is(library.order(), call, Desks.keys(desk, 1));
            }
        }
    }

    private static void caches() {
        LastUseDesk desk = new LastUseDesk();
        for (int key : KEYS) {
            desk.request(key);
        }
        for (int cache = 1; cache <= 8; cache++) {
            Bounded library = new Bounded(cache);
            for (int key : KEYS) {
                library.put(key, key);
            }
            Answers.is(library.order(), "the cache " + cache, Desks.cached(desk, cache));
        }
    }

    /** The pages in so many frames are the keys of the cache of that size. */
    private static void pages() {
        for (int frames = 1; frames <= 8; frames++) {
            LastUseDesk desk = new LastUseDesk();
            desk.setFrames(frames);
            for (int key : KEYS) {
                Desks.run(desk, "a" + (4 * key + 3) + ";");
            }
            Answers.is(Desks.cached(desk, frames), "pages in " + frames, Desks.pages(desk));
            Answers.is(KEYS.length - desk.hits(frames), "faults", desk.faults());
        }
    }
}
