/** Promises 22 to 32 and 47 to 49: caches, their record, and the figures of both. */
public final class CachesTest {
    public static void main(String[] args) {
        hitsAndMisses();
        lastUse();
        distances();
        nearer();
        leastCache();
        figures();
        clearing();
        fullRecord();
        Answers.end();
    }

    private static LastUseDesk asked(int... keys) {
        LastUseDesk desk = new LastUseDesk();
        for (int key : keys) {
            desk.request(key);
        }
        return desk;
    }

    private static void hitsAndMisses() {
        LastUseDesk desk = new LastUseDesk();
        Answers.due(0, "request of a new key", () -> desk.request(0));
        Answers.due(255, "request of the latest key", () -> desk.request(0));
        for (int key = 1; key <= 8; key++) {
            int asked = key;
            Answers.due(0, "request of a new key", () -> desk.request(asked));
        }
        Answers.due(0, "request of one that left all", () -> desk.request(0));
        Answers.due(0, "request of one that left all", () -> desk.request(1));
        Answers.due(0b1000_0000, "request 7 keys ago", () -> desk.request(3));
        Answers.due(0b1110_0000, "request 5 keys ago", () -> desk.request(6));
        Answers.due(0b1111_1110, "request 1 key ago", () -> desk.request(3));
        int[] hits = {1, 2, 2, 2, 2, 3, 3, 4};
        for (int cache = 1; cache <= 8; cache++) {
            int chosen = cache;
            Answers.due(hits[cache - 1], "hits of " + cache, () -> desk.hits(chosen));
            Answers.due(cache, "cached of " + cache, () -> desk.cached(chosen));
        }
        Answers.due(0, "errors", desk::errors);
    }

    private static void lastUse() {
        LastUseDesk desk = asked(1, 2, 3, 1);
        Answers.due("[1]", "cache 1", () -> Desks.cached(desk, 1));
        Answers.due("[3, 1]", "cache 2", () -> Desks.cached(desk, 2));
        Answers.due("[2, 3, 1]", "cache 3", () -> Desks.cached(desk, 3));
        Answers.due(3, "cached of 8", () -> desk.cached(8));
        desk.request(4);
        Answers.due("[3, 1, 4]", "a hit is a use", () -> Desks.cached(desk, 3));
        Answers.due(true, "isCached", () -> desk.isCached(3, 3));
        Answers.due(false, "isCached of one that left", () -> desk.isCached(3, 2));
        Answers.due(true, "isCached in a greater one", () -> desk.isCached(4, 2));
        desk.request(5);
        Answers.due("[1, 4, 5]", "isCached is no use", () -> Desks.cached(desk, 3));
        for (int place : new int[] {-1, 3, Integer.MIN_VALUE, Integer.MAX_VALUE}) {
            Answers.noPlace("cachedAt", () -> desk.cachedAt(3, place));
        }
        Answers.noPlace("cachedAt without keys", () -> new LastUseDesk().cachedAt(8, 0));
        Answers.illegal("cachedAt of no cache and no place", () -> desk.cachedAt(9, -1));
    }

    private static void distances() {
        LastUseDesk desk = asked(7, 8, 7, 7, 9, 9, 8, 99, 0, 7);
        int[] due = {-1, -1, 1, 0, -1, 0, 2, -1, -1, 4};
        int[] keys = {7, 8, 7, 7, 9, 9, 8, 99, 0, 7};
        Answers.due(10, "requests", desk::requests);
        for (int request = 0; request < due.length; request++) {
            int chosen = request;
            Answers.due(keys[request], "requestAt " + request, () -> desk.requestAt(chosen));
            Answers.due(due[request], "distanceOf " + request, () -> desk.distanceOf(chosen));
        }
        for (int request : new int[] {-1, 10, Integer.MIN_VALUE, Integer.MAX_VALUE}) {
            Answers.noPlace("requestAt", () -> desk.requestAt(request));
            Answers.noPlace("distanceOf", () -> desk.distanceOf(request));
        }
        LastUseDesk all = new LastUseDesk();
        for (int request = 0; request < 200; request++) {
            all.request(request % 100);
        }
        Answers.due(99, "the greatest distance", () -> all.distanceOf(100));
        Answers.due(100, "nearer than 100", () -> all.nearer(100));
        Answers.due(0, "nearer than 99", () -> all.nearer(99));
        Answers.due(99.0, "meanDistance", all::meanDistance);
    }

    private static void nearer() {
        LastUseDesk desk = asked(1, 1, 2, 1, 3, 4, 1);
        Answers.due(0, "nearer than 0", () -> desk.nearer(0));
        Answers.due(1, "nearer than 1", () -> desk.nearer(1));
        Answers.due(2, "nearer than 2", () -> desk.nearer(2));
        Answers.due(3, "nearer than 3", () -> desk.nearer(3));
        Answers.due(3, "nearer than 100", () -> desk.nearer(100));
    }

    private static void leastCache() {
        LastUseDesk desk = asked(1, 1, 2, 1, 3, 4, 1);
        Answers.due(1, "leastCache of 0", () -> desk.leastCache(0));
        Answers.due(1, "leastCache of 1", () -> desk.leastCache(1));
        Answers.due(2, "leastCache of 2", () -> desk.leastCache(2));
        Answers.due(3, "leastCache of 3", () -> desk.leastCache(3));
        Answers.due(-1, "leastCache of 4", () -> desk.leastCache(4));
        Answers.due(-1, "leastCache of many", () -> desk.leastCache(Integer.MAX_VALUE));
        LastUseDesk cycle = asked(0, 1, 2, 3, 4, 5, 6, 7, 0);
        Answers.due(8, "leastCache of 1", () -> cycle.leastCache(1));
    }

    private static void figures() {
        LastUseDesk desk = asked(1, 1, 2, 1, 3, 4, 1);
        Answers.due(1f / 7f, "hitShare of 1", () -> desk.hitShare(1));
        Answers.due(3f / 7f, "hitShare of 3", () -> desk.hitShare(3));
        Answers.due(1.0, "meanDistance", desk::meanDistance);
        desk.request(4);
        desk.request(4);
        Answers.due(4.0 / 5.0, "meanDistance", desk::meanDistance);
        Answers.due(0, "errors", desk::errors);
        LastUseDesk first = asked(1, 2, 3);
        Answers.due(0.0f, "hitShare without hits", () -> first.hitShare(8));
        Answers.due(0.0, "meanDistance of first requests", first::meanDistance);
    }

    private static void clearing() {
        LastUseDesk desk = asked(1, 1, 2);
        Desks.run(desk, "c5;s0;");
        Answers.due(4, "clearCaches", desk::clearCaches);
        Answers.due(0, "clearCaches again", desk::clearCaches);
        for (int cache = 1; cache <= 8; cache++) {
            int chosen = cache;
            Answers.due(0, "hits", () -> desk.hits(chosen));
            Answers.due(0, "cached", () -> desk.cached(chosen));
            Answers.due(0.0f, "hitShare", () -> desk.hitShare(chosen));
        }
        Answers.due(0, "requests", desk::requests);
        Answers.noPlace("requestAt", () -> desk.requestAt(0));
        Answers.noPlace("distanceOf", () -> desk.distanceOf(0));
        Answers.due(0, "nearer", () -> desk.nearer(100));
        Answers.due(0.0, "meanDistance", desk::meanDistance);
        Answers.due(1, "the machine stays: resident", desk::resident);
        Answers.due(true, "the machine stays: isDirty", () -> desk.isDirty(0));
        Answers.due(5, "the machine stays: accumulator", desk::accumulator);
        Answers.due(1, "the machine stays: faults", desk::faults);
        Answers.due(0, "request is a first one again", () -> desk.request(1));
        Answers.due(-1, "distanceOf is none again", () -> desk.distanceOf(0));
        Answers.due(0, "errors", desk::errors);
    }

    private static void fullRecord() {
        LastUseDesk desk = new LastUseDesk();
        Desks.recordByRuns(desk, 4);
        for (int request = 0; request < 199; request++) {
            desk.request(50);
        }
        Answers.due(999, "requests", desk::requests);
        Answers.due(0, "the request number 1000", () -> desk.request(51));
        Answers.due(1000, "requests", desk::requests);
        Answers.tooEarly("request beyond", () -> desk.request(51));
        Answers.illegal("request beyond of no key", () -> desk.request(100));
        Answers.illegal("request beyond of no key", () -> desk.request(-1));
        Answers.due(1000, "requests", desk::requests);
        Answers.due(997, "hits", () -> desk.hits(1));
        Answers.due(51, "requestAt", () -> desk.requestAt(999));
        Answers.noPlace("requestAt", () -> desk.requestAt(1000));
        Answers.due(997f / 1000f, "hitShare", () -> desk.hitShare(1));
        Answers.due(0, "errors", desk::errors);
        Answers.due(1000, "clearCaches", desk::clearCaches);
        Answers.due(0, "request", () -> desk.request(51));
    }
}
