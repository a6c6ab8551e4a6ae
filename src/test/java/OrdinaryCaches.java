/** Ordinary inputs: what each promise of the caches says first (promises 22 to 32, 47 to 49). */
final class OrdinaryCaches {
    private OrdinaryCaches() {
    }

    static void all() {
        Sentences.test(22, "Requests a key of all eight caches.", OrdinaryCaches::request);
        Sentences.test(22, "A request of a key from 0 to 99 goes to all eight alike",
                OrdinaryCaches::alike);
        Sentences.test(22, "and if the cache has more than n keys then", OrdinaryCaches::leaving);
        Sentences.test(23, "Empties the eight caches and the record, and sets their hits to 0.",
                OrdinaryCaches::clearCaches);
        Sentences.test(24, "Counts the hits of a cache.", OrdinaryCaches::hits);
        Sentences.test(25, "Counts the keys of a cache.", OrdinaryCaches::cached);
        Sentences.test(26, "Tells whether a key is in a cache.", OrdinaryCaches::isCached);
        Sentences.test(27, "Returns a key of a cache by its place in the order.",
                OrdinaryCaches::cachedAt);
        Sentences.test(28, "Returns the number of requests that are recorded.",
                OrdinaryCaches::requests);
        Sentences.test(29, "Returns the key of a request.", OrdinaryCaches::requestAt);
        Sentences.test(30, "Returns the distance of a request.", OrdinaryCaches::distanceOf);
        Sentences.test(31, "Counts the requests whose distance is less than a number.",
                OrdinaryCaches::nearer);
        Sentences.test(32, "Returns the smallest cache with at least so many hits.",
                OrdinaryCaches::leastCache);
        Sentences.test(47, "Returns the share of hits of a cache.", OrdinaryCaches::hitShare);
        Sentences.test(48, "Returns the mean distance of requests.", OrdinaryCaches::meanDistance);
    }

    private static LastUseDesk asked(int... keys) {
        LastUseDesk desk = new LastUseDesk();
        for (int key : keys) {
            desk.request(key);
        }
        return desk;
    }

    private static void request() {
        LastUseDesk desk = new LastUseDesk();
        Answers.is(0, "request of a new key", desk.request(0));
        Answers.is(255, "request of the latest key", desk.request(0));
        for (int key = 1; key <= 8; key++) {
            Answers.is(0, "request of a new key", desk.request(key));
        }
        Answers.is(0, "request of one that left all", desk.request(0));
        Answers.is(0, "request of one that left all", desk.request(1));
        Answers.is(0b1000_0000, "request 7 keys ago", desk.request(3));
        Answers.is(0b1110_0000, "request 5 keys ago", desk.request(6));
        Answers.is(0b1111_1110, "request 1 key ago", desk.request(3));
    }

    private static void alike() {
        LastUseDesk desk = asked(1, 2, 3, 1);
        Answers.is("[1]", "the cache 1", Desks.cached(desk, 1));
        Answers.is("[3, 1]", "the cache 2", Desks.cached(desk, 2));
        for (int cache = 3; cache <= 8; cache++) {
            Answers.is("[2, 3, 1]", "the cache " + cache, Desks.cached(desk, cache));
        }
    }

    private static void leaving() {
        LastUseDesk desk = asked(1, 2, 3, 1, 4);
        Answers.is("[4]", "the cache 1", Desks.cached(desk, 1));
        Answers.is("[1, 4]", "the cache 2", Desks.cached(desk, 2));
        Answers.is("[3, 1, 4]", "the cache 3", Desks.cached(desk, 3));
        Answers.is("[2, 3, 1, 4]", "the cache 4", Desks.cached(desk, 4));
        Answers.is("[2, 3, 1, 4]", "the cache 8", Desks.cached(desk, 8));
    }

    private static void clearCaches() {
        LastUseDesk desk = asked(1, 1, 2);
        Desks.run(desk, "c5;s0;");
        Answers.is(4, "clearCaches", desk.clearCaches());
        Answers.is(0, "clearCaches again", desk.clearCaches());
        for (int cache = 1; cache <= 8; cache++) {
            Answers.is(0, "hits", desk.hits(cache));
            Answers.is(0, "cached", desk.cached(cache));
            Answers.is(0.0f, "hitShare", desk.hitShare(cache));
        }
        Answers.is(0, "requests", desk.requests());
        Answers.noPlace("requestAt", () -> desk.requestAt(0));
        Answers.noPlace("distanceOf", () -> desk.distanceOf(0));
        Answers.is(0, "nearer", desk.nearer(100));
        Answers.is(0.0, "meanDistance", desk.meanDistance());
        Answers.is(0, "request, a first one again,", desk.request(1));
        Answers.is(-1, "distanceOf", desk.distanceOf(0));
    }

    private static void hits() {
        LastUseDesk desk = asked(0, 0, 1, 2, 3, 4, 5, 6, 7, 8, 0, 1, 3, 6, 3);
        int[] hits = {1, 2, 2, 2, 2, 3, 3, 4};
        for (int cache = 1; cache <= 8; cache++) {
            Answers.is(hits[cache - 1], "hits of " + cache, desk.hits(cache));
        }
    }

    private static void cached() {
        LastUseDesk desk = asked(5, 6, 5, 7);
        int[] cached = {1, 2, 3, 3, 3, 3, 3, 3};
        for (int cache = 1; cache <= 8; cache++) {
            Answers.is(cached[cache - 1], "cached of " + cache, desk.cached(cache));
        }
    }

    private static void isCached() {
        LastUseDesk desk = asked(1, 2, 3, 1, 4);
        Answers.is(true, "isCached", desk.isCached(3, 3));
        Answers.is(false, "isCached of one that left", desk.isCached(3, 2));
        Answers.is(true, "isCached in a greater one", desk.isCached(4, 2));
        Answers.is(false, "isCached of one never asked for", desk.isCached(8, 0));
    }

    private static void cachedAt() {
        LastUseDesk desk = asked(1, 2, 3, 1, 4);
        Answers.is(3, "cachedAt", desk.cachedAt(3, 0));
        Answers.is(1, "cachedAt", desk.cachedAt(3, 1));
        Answers.is(4, "cachedAt", desk.cachedAt(3, 2));
        Answers.noPlace("cachedAt", () -> desk.cachedAt(3, 3));
        Answers.is(2, "cachedAt", desk.cachedAt(8, 0));
        Answers.noPlace("cachedAt", () -> desk.cachedAt(8, 4));
    }

    private static void requests() {
        LastUseDesk desk = asked(7, 7, 8);
        Answers.is(3, "requests", desk.requests());
        Desks.run(desk, "c1;l0;s4;a8;");
        Answers.is(6, "requests behind three accesses", desk.requests());
        Answers.illegal("request", () -> desk.request(100));
        Answers.is(6, "requests behind a refused one", desk.requests());
    }

    private static void requestAt() {
        int[] keys = {7, 8, 7, 7, 9, 9, 8, 99, 0, 7};
        LastUseDesk desk = asked(keys);
        for (int request = 0; request < keys.length; request++) {
            Answers.is(keys[request], "requestAt " + request, desk.requestAt(request));
        }
    }

    private static void distanceOf() {
        LastUseDesk desk = asked(7, 8, 7, 7, 9, 9, 8, 99, 0, 7);
        int[] distances = {-1, -1, 1, 0, -1, 0, 2, -1, -1, 4};
        for (int request = 0; request < distances.length; request++) {
            Answers.is(distances[request], "distanceOf " + request, desk.distanceOf(request));
        }
    }

    private static void nearer() {
        LastUseDesk desk = asked(1, 1, 2, 1, 3, 4, 1);
        Answers.is(0, "nearer than 0", desk.nearer(0));
        Answers.is(1, "nearer than 1", desk.nearer(1));
        Answers.is(2, "nearer than 2", desk.nearer(2));
        Answers.is(3, "nearer than 3", desk.nearer(3));
        Answers.is(3, "nearer than 100", desk.nearer(100));
    }

    private static void leastCache() {
        LastUseDesk desk = asked(1, 1, 2, 1, 3, 4, 1);
        Answers.is(1, "leastCache of 0", desk.leastCache(0));
        Answers.is(1, "leastCache of 1", desk.leastCache(1));
        Answers.is(2, "leastCache of 2", desk.leastCache(2));
        Answers.is(3, "leastCache of 3", desk.leastCache(3));
        Answers.is(-1, "leastCache of 4", desk.leastCache(4));
    }

    private static void hitShare() {
        LastUseDesk desk = asked(1, 1, 2, 1, 3, 4, 1);
        Answers.is(1f / 7f, "hitShare of 1", desk.hitShare(1));
        Answers.is(2f / 7f, "hitShare of 2", desk.hitShare(2));
        Answers.is(3f / 7f, "hitShare of 3", desk.hitShare(3));
        Answers.is(3f / 7f, "hitShare of 8", desk.hitShare(8));
    }

    private static void meanDistance() {
        LastUseDesk desk = asked(1, 1, 2, 1, 3, 4, 1);
        Answers.is(1.0, "meanDistance", desk.meanDistance());
        desk.request(4);
        desk.request(4);
        Answers.is(4.0 / 5.0, "meanDistance", desk.meanDistance());
    }
}
