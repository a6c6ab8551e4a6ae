/** Empty and full: the eight caches, the record and the figures (promises 22 to 32, 47 to 49). */
final class CacheSentences {
    private static final int[] CACHES = Desks.numbers(1, 8);

    private CacheSentences() {
    }

    static void all() {
        bounds();
        requests();
        clearing();
        cachesAtTheirEnds();
        record();
        distances();
        figures();
    }

    private static LastUseDesk asked(int... keys) {
        LastUseDesk desk = new LastUseDesk();
        for (int key : keys) {
            desk.request(key);
        }
        return desk;
    }

    private static void bounds() {
        Sentences.test(22, "The cache n, for n from 1 to 8, has at most n keys.", () -> {
            for (int cache : CACHES) {
                LastUseDesk desk = asked(Desks.numbers(0, cache - 1));
                Answers.is(cache, "cached of " + cache + " at its bound", desk.cached(cache));
                Answers.is(true, "isCached of the eldest", desk.isCached(cache, 0));
                desk.request(99);
                Answers.is(cache, "cached of " + cache + " beyond its bound", desk.cached(cache));
                Answers.is(false, "isCached of the eldest", desk.isCached(cache, 0));
                Answers.is(true, "isCached of the newest", desk.isCached(cache, 99));
            }
        });
        Sentences.test(22, "the one whose last use is longest ago leaves it.", () -> {
            for (int cache : CACHES) {
                LastUseDesk desk = asked(Desks.numbers(0, cache - 1));
                desk.request(0);
                desk.request(99);
                int left = cache == 1 ? 0 : 1;
                Answers.is(false, "isCached of the eldest, " + left, desk.isCached(cache, left));
                Answers.is(cache > 1, "isCached of one that was a hit", desk.isCached(cache, 0));
            }
        });
        Sentences.test(22, "where the key is in the cache, this is a hit, and a use of it; otherwise a"
                + " miss: the key comes into the cache, as the one used last", () -> {
            LastUseDesk desk = asked(1, 2, 3, 1);
            Answers.is("[1]", "the cache 1", Desks.cached(desk, 1));
            Answers.is("[3, 1]", "the cache 2", Desks.cached(desk, 2));
            Answers.is("[2, 3, 1]", "the cache 3", Desks.cached(desk, 3));
            Answers.is("[2, 3, 1]", "the cache 8", Desks.cached(desk, 8));
            Answers.is(0, "hits of the cache 2", desk.hits(2));
            Answers.is(1, "hits of the cache 3", desk.hits(3));
        });
    }

    private static void requests() {
        Sentences.test(22, "Returns the caches in which it was a hit: the sum of 2 to the power of n - 1"
                + " for each such cache n.", () -> {
            Answers.is(0, "request of empty caches", new LastUseDesk().request(0));
            for (int others = 0; others <= 9; others++) {
                LastUseDesk desk = asked(Desks.numbers(0, others));
                int hits = 0;
                for (int cache : CACHES) {
                    hits += cache > others ? 1 << (cache - 1) : 0;
                }
                Answers.is(hits, "request with " + others + " others since", desk.request(0));
            }
        });
        Sentences.test(22, "Each request is recorded, at most 1000 of them, numbered from 0.", () -> {
            LastUseDesk desk = Desks.recorded(4, 199);
            Answers.is(999, "requests", desk.requests());
            Answers.is(0, "the last request that goes in", desk.request(51));
            Answers.is(1000, "requests", desk.requests());
            Answers.tooEarly("the first that does not", () -> desk.request(51));
            Answers.is(1000, "requests", desk.requests());
            Answers.is(0, "requestAt of the first", desk.requestAt(0));
            Answers.is(51, "requestAt of the last", desk.requestAt(999));
        });
        Sentences.test(35, "Each request is recorded, at most 1000 of them, numbered from 0.", () -> {
            LastUseDesk desk = Desks.recorded(4, 0);
            Answers.is(200, "the last run that goes in", Desks.run(desk, "x9{x9{x9{l63;}}}"));
            Answers.is(1000, "requests", desk.requests());
            Answers.is(15, "requestAt of the last", desk.requestAt(999));
            Answers.tooEarly("request", () -> desk.request(0));
        });
    }

    private static void clearing() {
        Sentences.test(23, "Returns the number of requests that were recorded.", () -> {
            LastUseDesk desk = Desks.recorded(5, 0);
            Answers.is(1000, "clearCaches of a full record", desk.clearCaches());
            Answers.is(0, "clearCaches of an empty record", desk.clearCaches());
            desk.request(0);
            Answers.is(1, "clearCaches of one request", desk.clearCaches());
            Answers.is(0, "clearCaches of a new desk", new LastUseDesk().clearCaches());
        });
        Sentences.test(23, "Empties the eight caches and the record, and sets their hits to 0.", () -> {
            LastUseDesk desk = Desks.recorded(4, 200);
            desk.clearCaches();
            for (int cache : CACHES) {
                Answers.is(0, "cached", desk.cached(cache));
                Answers.is(0, "hits", desk.hits(cache));
                Answers.is(false, "isCached", desk.isCached(cache, 50));
            }
            Answers.is(0, "requests", desk.requests());
            Answers.is(0, "request", desk.request(50));
            Answers.is(-1, "distanceOf", desk.distanceOf(0));
            Answers.is(1, "run", Desks.run(desk, "l0;"));
        });
        Sentences.test(23, "(The machine stays as it is.)", () -> {
            LastUseDesk desk = new LastUseDesk();
            Desks.run(desk, "c5;s0;l63;");
            desk.clearCaches();
            Answers.is("[0, 15]", "pages", Desks.pages(desk));
            Answers.is(true, "isDirty", desk.isDirty(0));
            Answers.is(5, "wordAt", desk.wordAt(0));
            Answers.is(63, "accumulator", desk.accumulator());
            Answers.is(2, "faults", desk.faults());
            Answers.is(0, "writes", desk.writes());
            Desks.run(desk, "l4;");
            Answers.is("[15, 1]", "pages", Desks.pages(desk));
        });
    }

    private static void cachesAtTheirEnds() {
        LastUseDesk empty = new LastUseDesk();
        Sentences.test(24, "Returns how many requests were hits there.", () -> {
            LastUseDesk full = Desks.recorded(4, 200);
            LastUseDesk none = new LastUseDesk();
            for (int request = 0; request < 400; request++) {
                none.request(request % 9);
            }
            for (int cache : CACHES) {
                Answers.is(0, "hits of an empty record", empty.hits(cache));
                Answers.is(998, "hits of a full record", full.hits(cache));
                Answers.is(0, "hits where nine keys go round", none.hits(cache));
            }
        });
        Sentences.test(25, "Returns how many it has.", () -> {
            for (int cache : CACHES) {
                Answers.is(0, "cached of an empty cache", empty.cached(cache));
                LastUseDesk desk = new LastUseDesk();
                for (int keys = 1; keys <= 20; keys++) {
                    desk.request(keys);
                    Answers.is(Math.min(cache, keys), "cached of " + cache, desk.cached(cache));
                }
            }
        });
        Sentences.test(26, "Returns true if it is.", () -> {
            LastUseDesk full = asked(Desks.numbers(0, 99));
            for (int cache : CACHES) {
                Answers.is(false, "isCached of an empty cache", empty.isCached(cache, 0));
                Answers.is(false, "isCached of an empty cache", empty.isCached(cache, 99));
                Answers.is(true, "isCached of the eldest", full.isCached(cache, 100 - cache));
                Answers.is(false, "isCached of one that left", full.isCached(cache, 99 - cache));
            }
        });
        Sentences.test(26, "This is no use.", () -> {
            LastUseDesk desk = asked(Desks.numbers(0, 7));
            for (int cache : CACHES) {
                desk.isCached(cache, 8 - cache);
            }
            desk.request(99);
            for (int cache : CACHES) {
                Answers.is(false, "isCached of the eldest", desk.isCached(cache, 8 - cache));
            }
        });
        Sentences.test(27, "Returns the key.", () -> {
            LastUseDesk desk = asked(Desks.numbers(0, 99));
            for (int cache : CACHES) {
                Answers.is(100 - cache, "cachedAt of the eldest", desk.cachedAt(cache, 0));
                Answers.is(99, "cachedAt of the last", desk.cachedAt(cache, cache - 1));
                Answers.noPlace("cachedAt behind it", () -> desk.cachedAt(cache, cache));
                Answers.noPlace("cachedAt of an empty cache", () -> empty.cachedAt(cache, 0));
            }
        });
    }

    private static void record() {
        Sentences.test(28, "Returns 0 to 1000.", () -> {
            Answers.is(0, "requests of an empty record", new LastUseDesk().requests());
            Answers.is(1, "requests", asked(5).requests());
            Answers.is(999, "requests", Desks.recorded(4, 199).requests());
            Answers.is(1000, "requests of a full record", Desks.recorded(4, 200).requests());
        });
        Sentences.test(29, "Returns the key.", () -> {
            LastUseDesk desk = Desks.recorded(4, 199);
            Answers.noPlace("requestAt of the one to come", () -> desk.requestAt(999));
            desk.request(99);
            Answers.is(0, "requestAt of the first", desk.requestAt(0));
            Answers.is(0, "requestAt", desk.requestAt(799));
            Answers.is(50, "requestAt", desk.requestAt(800));
            Answers.is(99, "requestAt of the last", desk.requestAt(999));
            Answers.noPlace("requestAt behind it", () -> desk.requestAt(1000));
            Answers.noPlace("requestAt of an empty record", () -> new LastUseDesk().requestAt(0));
        });
        Sentences.test(30, "Returns the distance; NONE for the first request of its key.", () -> {
            LastUseDesk desk = Desks.recorded(4, 199);
            Answers.noPlace("distanceOf the one to come", () -> desk.distanceOf(999));
            desk.request(0);
            Answers.is(-1, "distanceOf the first", desk.distanceOf(0));
            Answers.is(0, "distanceOf the second", desk.distanceOf(1));
            Answers.is(-1, "distanceOf the first of another key", desk.distanceOf(800));
            Answers.is(1, "distanceOf the last", desk.distanceOf(999));
            Answers.noPlace("distanceOf one behind it", () -> desk.distanceOf(1000));
            Answers.noPlace("distanceOf in an empty record", () -> new LastUseDesk().distanceOf(0));
        });
    }

    private static void distances() {
        Sentences.test(30, "The distance of a request is the number of other keys that were asked for"
                + " since the latest earlier request of its key; the first request of a key has"
                + " none.", () -> {
            for (int others = 0; others <= 99; others++) {
                LastUseDesk desk = asked(Desks.numbers(0, others));
                desk.request(0);
                Answers.is(others, "distanceOf", desk.distanceOf(others + 1));
                Answers.is(-1, "distanceOf a first request", desk.distanceOf(others));
            }
            // Another key counts once, however often it was asked for, and only since the latest.
            LastUseDesk desk = asked(7, 1, 2, 7, 1, 1, 1, 7);
            Answers.is(2, "distanceOf", desk.distanceOf(3));
            Answers.is(1, "distanceOf", desk.distanceOf(7));
        });
        Sentences.test(31, "Returns how many there are, of those that have one.", () -> {
            LastUseDesk empty = new LastUseDesk();
            Answers.is(0, "nearer than 0 in an empty record", empty.nearer(0));
            Answers.is(0, "nearer than 100 in an empty record", empty.nearer(100));
            Answers.is(0, "nearer than 100 in first requests", asked(1, 2, 3).nearer(100));
            LastUseDesk full = Desks.recorded(4, 200);
            Answers.is(0, "nearer than 0 in a full record", full.nearer(0));
            Answers.is(998, "nearer than 1 in a full record", full.nearer(1));
            Answers.is(998, "nearer than 100 in a full record", full.nearer(100));
            LastUseDesk farthest = asked(Desks.numbers(0, 99));
            farthest.request(0);
            Answers.is(0, "nearer than 99", farthest.nearer(99));
            Answers.is(1, "nearer than 100", farthest.nearer(100));
        });
    }

    private static void figures() {
        Sentences.test(32, "Returns the number of the cache; NONE without one.", () -> {
            LastUseDesk empty = new LastUseDesk();
            Answers.is(1, "leastCache of 0 in an empty record", empty.leastCache(0));
            Answers.is(-1, "leastCache of 1 in an empty record", empty.leastCache(1));
            LastUseDesk full = Desks.recorded(4, 200);
            Answers.is(1, "leastCache of all hits", full.leastCache(998));
            Answers.is(-1, "leastCache of one more", full.leastCache(999));
            for (int cache : CACHES) {
                LastUseDesk desk = asked(Desks.numbers(0, cache - 1));
                desk.request(0);
                Answers.is(cache, "leastCache of 1", desk.leastCache(1));
                Answers.is(-1, "leastCache of 2", desk.leastCache(2));
            }
        });
        Sentences.test(47, "Returns its hits, converted to float, divided by the number of recorded"
                + " requests, converted to float; 0.0f without requests.", () -> {
            LastUseDesk full = Desks.recorded(4, 200);
            for (int cache : CACHES) {
                Answers.is(0.0f, "hitShare without requests", new LastUseDesk().hitShare(cache));
                Answers.is(0.0f, "hitShare without hits", asked(1).hitShare(cache));
                Answers.is(998f / 1000f, "hitShare of a full record", full.hitShare(cache));
            }
            Answers.is(2f / 3f, "hitShare", asked(1, 1, 1).hitShare(1));
            full.clearCaches();
            Answers.is(0.0f, "hitShare behind clearCaches", full.hitShare(8));
        });
        Sentences.test(48, "Returns the sum of the distances of all requests that have one, converted to"
                + " double, divided by their number, converted to double; 0.0 without any.", () -> {
            Answers.is(0.0, "meanDistance of an empty record", new LastUseDesk().meanDistance());
            Answers.is(0.0, "meanDistance of first requests", asked(1, 2, 3).meanDistance());
            Answers.is(0.0, "meanDistance of one key", asked(1, 1).meanDistance());
            LastUseDesk farthest = asked(Desks.numbers(0, 99));
            for (int key = 0; key < 100; key++) {
                farthest.request(key);
            }
            Answers.is(99.0, "the greatest meanDistance", farthest.meanDistance());
            LastUseDesk full = Desks.recorded(4, 199);
            full.request(0);
            Answers.is(1.0 / 998.0, "meanDistance of a full record", full.meanDistance());
            full.clearCaches();
            Answers.is(0.0, "meanDistance behind clearCaches", full.meanDistance());
        });
        Sentences.test(49, "Returns how many caches there are of the one or the other sort, one of both"
                + " sorts counted once; always 0.", () -> {
            Answers.is(0, "errors of an empty record", new LastUseDesk().errors());
            Answers.is(0, "errors of one request", asked(99).errors());
            LastUseDesk desk = Desks.recorded(4, 0);
            for (int request = 0; request < 200; request++) {
                desk.request(request * request % 13);
                Answers.is(0, "errors", desk.errors());
            }
            Answers.is(1000, "clearCaches", desk.clearCaches());
            Answers.is(0, "errors behind clearCaches", desk.errors());
        });
    }
}
