/** Empty and full: the maps, what is put out of them, and what is a use (promises 1 to 17). */
final class MapSentences {
    private static final int[] MAPS = Desks.numbers(0, 1);
    private static final String BEFORE =
            "Returns the value that the key had before; NONE if it was not there.";
    private static final String PUT_OUT = "Behind a put() or putIfAbsent() by which the bounded map"
            + " has more pairs than its bound, its eldest pair is put out.";
    private static final String USES = "A use of a pair is: put(), whether its key was there or not;"
            + " putIfAbsent(), which puts the pair if the key is not there, and otherwise leaves the"
            + " value as it is, but is a use of the pair that is there; get() and getOrDefault() of"
            + " a key that is there.";

    private MapSentences() {
    }

    static void all() {
        newDesk();
        bounds();
        putting();
        takingOff();
        asking();
        askingByPlaces();
        putOut();
        uses();
        noUses();
    }

    private static void newDesk() {
        Sentences.test(1, "Creates a desk with empty maps, caches, record and tape, a machine with 2"
                + " frames and no resident page, and no cursors.", () -> {
            LastUseDesk desk = new LastUseDesk();
            for (int map : MAPS) {
                Answers.is(0, "size", desk.size(map));
                Answers.is(false, "hasNext", desk.hasNext(map));
                Answers.tooEarly("next", () -> desk.next(map));
                Answers.tooEarly("takeOut", () -> desk.takeOut(map));
            }
            for (int cache = 1; cache <= 8; cache++) {
                Answers.is(0, "cached", desk.cached(cache));
            }
            Answers.is(0, "requests", desk.requests());
            Answers.is(0, "clearTape", desk.clearTape());
            Answers.is(0, "resident", desk.resident());
            Desks.run(desk, "l0;l4;l8;");
            Answers.is("[1, 2]", "pages in 2 frames", Desks.pages(desk));
        });
        Sentences.test(1, "An object is used for at most 512 calls after it has been made", () -> {
            LastUseDesk desk = new LastUseDesk();
            for (int call = 1; call < 512; call++) {
                desk.request(call % 100);
            }
            Answers.is(511, "requests, the call number 512,", desk.requests());
            LastUseDesk most = new LastUseDesk();
            most.setFrames(1);
            for (int run = 1; run <= 170; run++) {
                Answers.is(200, "run", Desks.run(most, "x9{x9{x9{l0;l4;}}}"));
                Answers.is(200, "clearCaches", most.clearCaches());
            }
            Answers.is(34000, "faults, the call number 512,", most.faults());
        });
        Sentences.test(1, "NONE = -1: The absence of a number.",
                () -> Answers.is(-1, "NONE", LastUseDesk.NONE));
    }

    private static void bounds() {
        Sentences.test(2, "The map 0 is free", () -> {
            LastUseDesk desk = new LastUseDesk();
            for (int key = 0; key < 100; key++) {
                Answers.is(-1, "put of " + key, desk.put(0, key, key));
                Answers.is(key + 1, "size", desk.size(0));
            }
            Answers.is(0, "keyAt of the eldest", desk.keyAt(0, 0));
            Answers.is(0, "putOut", desk.putOut());
        });
        Sentences.test(2, "at first 4", () -> {
            LastUseDesk desk = new LastUseDesk();
            fill(desk, 4, 1);
            Answers.is("[0, 1, 2, 3]", "four pairs", Desks.keys(desk, 1));
            Answers.is(0, "putOut", desk.putOut());
            desk.put(1, 4, 4);
            Answers.is("[1, 2, 3, 4]", "four of five pairs", Desks.keys(desk, 1));
            Answers.is(1, "putOut", desk.putOut());
        });
        Sentences.test(2, "it has at most as many pairs as its bound tells, 1 to 20", () -> {
            for (int bound = 1; bound <= 20; bound++) {
                LastUseDesk desk = new LastUseDesk();
                desk.setBound(bound);
                fill(desk, bound, 1);
                Answers.is(bound, "size at the bound " + bound, desk.size(1));
                Answers.is(0, "putOut at the bound " + bound, desk.putOut());
                desk.put(1, 99, 999);
                Answers.is(bound, "size beyond the bound " + bound, desk.size(1));
                Answers.is(1, "putOut beyond the bound " + bound, desk.putOut());
                Answers.is(0, "lastPutOut beyond the bound " + bound, desk.lastPutOut());
            }
        });
        Sentences.test(2, "A pair is a key from 0 to 99 and a value from 0 to 999.", () -> {
            for (int map : MAPS) {
                LastUseDesk desk = new LastUseDesk();
                desk.put(map, 0, 999);
                desk.put(map, 99, 0);
                Answers.is("[0, 99]", "keys", Desks.keys(desk, map));
                Answers.is("[999, 0]", "values", Desks.values(desk, map));
            }
        });
        Sentences.test(8, "Sets the bound of the map 1, which has no pairs then.", () -> {
            for (int bound = 1; bound <= 20; bound++) {
                LastUseDesk desk = Desks.fullMaps();
                desk.setBound(bound);
                Answers.is(0, "size with the bound " + bound, desk.size(1));
                Answers.is(false, "hasKey", desk.hasKey(1, 19));
                Answers.is(100, "size of the free map", desk.size(0));
                fill(desk, 21, 1);
                Answers.is(bound, "size of 21 pairs, with the bound " + bound, desk.size(1));
            }
        });
        Sentences.test(8, "Returns the bound before.", () -> {
            LastUseDesk desk = new LastUseDesk();
            Answers.is(4, "setBound at first", desk.setBound(1));
            for (int bound = 1; bound <= 20; bound++) {
                Answers.is(bound, "setBound", desk.setBound(bound));
                Answers.is(bound, "setBound", desk.setBound(Math.min(20, bound + 1)));
            }
        });
    }

    private interface Put {
        int on(LastUseDesk desk, int map, int key, int value);
    }

    private static void putting() {
        before(2, LastUseDesk::put, 999);
        before(3, LastUseDesk::putIfAbsent, 0);
        puttingOut(2, LastUseDesk::put);
        puttingOut(3, LastUseDesk::putIfAbsent);
    }

    /** What is there after 0 and then 999 were put for a key tells whether the later one counts. */
    private static void before(int promise, Put put, int thereThen) {
        Sentences.test(promise, BEFORE, () -> {
            for (int map : MAPS) {
                LastUseDesk desk = new LastUseDesk();
                Answers.is(-1, "a new key of an empty map", put.on(desk, map, 0, 0));
                Answers.is(0, "the only key", put.on(desk, map, 0, 999));
                Answers.is(thereThen, "the only key", put.on(desk, map, 0, 1));
            }
            LastUseDesk full = Desks.fullMaps();
            for (int key = 0; key < 100; key++) {
                Answers.is(10 * key, "a key of the full free map", put.on(full, 0, key, 5));
            }
            Answers.is(0, "the eldest key of the full bounded map", put.on(full, 1, 0, 5));
            Answers.is(190, "a key of the full bounded map", put.on(full, 1, 19, 5));
            Answers.is(-1, "a new key of the full bounded map", put.on(full, 1, 20, 5));
            Answers.is(-1, "the key that was put out", put.on(full, 1, 1, 5));
        });
    }

    private static void puttingOut(int promise, Put put) {
        Sentences.test(promise, PUT_OUT, () -> {
            LastUseDesk desk = Desks.fullMaps();
            put.on(desk, 1, 0, 5);
            put.on(desk, 1, 19, 5);
            Answers.is(20, "size behind keys that are there", desk.size(1));
            Answers.is(0, "putOut behind keys that are there", desk.putOut());
            put.on(desk, 1, 20, 5);
            Answers.is(20, "size behind a new key", desk.size(1));
            Answers.is(1, "putOut behind a new key", desk.putOut());
            Answers.is(1, "lastPutOut", desk.lastPutOut());
            Answers.is(2, "keyAt of the eldest", desk.keyAt(1, 0));
            Answers.is(20, "keyAt of the one used last", desk.keyAt(1, 19));
            put.on(desk, 0, 20, 5);
            Answers.is(100, "size of the free map", desk.size(0));
        });
    }

    private static void takingOff() {
        Sentences.test(6, "Returns the value that it had; NONE if the key was not there.", () -> {
            LastUseDesk desk = Desks.fullMaps();
            for (int key = 0; key < 100; key++) {
                Answers.is(10 * key, "remove from the free map", desk.remove(0, key));
            }
            for (int key = 19; key >= 0; key--) {
                Answers.is(10 * key, "remove from the bounded map", desk.remove(1, key));
            }
            for (int map : MAPS) {
                Answers.is(0, "size behind all removes", desk.size(map));
                Answers.is(-1, "remove from an empty map", desk.remove(map, 0));
                Answers.is(-1, "remove from an empty map", desk.remove(map, 99));
                Answers.is(-1, "put behind all removes", desk.put(map, 0, 1));
            }
        });
        Sentences.test(7, "Returns how many there were.", () -> {
            LastUseDesk desk = Desks.fullMaps();
            Answers.is(100, "clear of the full free map", desk.clear(0));
            Answers.is(20, "clear of the full bounded map", desk.clear(1));
            for (int map : MAPS) {
                Answers.is(0, "clear of an empty map", desk.clear(map));
                Answers.is(-1, "get behind clear", desk.get(map, 5));
                desk.put(map, 5, 5);
                Answers.is(1, "clear of one pair", desk.clear(map));
            }
        });
    }

    private static void asking() {
        LastUseDesk empty = new LastUseDesk();
        Sentences.test(4, "Returns the value; NONE if the key is not there.", () -> {
            LastUseDesk full = Desks.fullMaps();
            for (int key = 0; key < 100; key++) {
                Answers.is(10 * key, "get from the full free map", full.get(0, key));
                Answers.is(key < 20 ? 10 * key : -1, "get from the full map", full.get(1, key));
            }
            for (int map : MAPS) {
                Answers.is(-1, "get from an empty map", empty.get(map, 0));
                Answers.is(-1, "get from an empty map", empty.get(map, 99));
                Answers.is(0, "size behind get", empty.size(map));
            }
        });
        Sentences.test(5, "Returns the value; other if the key is not there.", () -> {
            LastUseDesk full = Desks.fullMaps();
            Answers.is(0, "getOrDefault of the eldest", full.getOrDefault(0, 0, -1));
            Answers.is(990, "getOrDefault of the last", full.getOrDefault(0, 99, -1));
            Answers.is(190, "getOrDefault of the last", full.getOrDefault(1, 19, -1));
            Answers.is(-7, "getOrDefault of none", full.getOrDefault(1, 20, -7));
            for (int map : MAPS) {
                Answers.is(7, "getOrDefault from an empty map", empty.getOrDefault(map, 0, 7));
                Answers.is(0, "size behind getOrDefault", empty.size(map));
            }
        });
        Sentences.test(9, "Returns true if it is.", () -> {
            LastUseDesk full = Desks.fullMaps();
            for (int key = 0; key < 100; key++) {
                Answers.is(true, "hasKey of the full free map", full.hasKey(0, key));
                Answers.is(key < 20, "hasKey of the full bounded map", full.hasKey(1, key));
                Answers.is(false, "hasKey of an empty map", empty.hasKey(key % 2, key));
            }
        });
        Sentences.test(10, "Returns true if one has.", () -> {
            LastUseDesk full = Desks.fullMaps();
            for (int value : new int[] {0, 10, 180, 190}) {
                Answers.is(true, "hasValue of the full free map", full.hasValue(0, value));
                Answers.is(true, "hasValue of the full bounded map", full.hasValue(1, value));
                Answers.is(false, "hasValue of an empty map", empty.hasValue(0, value));
                Answers.is(false, "hasValue of an empty map", empty.hasValue(1, value));
            }
            Answers.is(true, "hasValue of the last", full.hasValue(0, 990));
            Answers.is(false, "hasValue of none", full.hasValue(1, 200));
            Answers.is(false, "hasValue of none", full.hasValue(0, 999));
            full.put(1, 20, 999);
            Answers.is(false, "hasValue of a pair that was put out", full.hasValue(1, 0));
        });
        Sentences.test(15, "Returns the sum; 0 without pairs.", () -> {
            LastUseDesk full = new LastUseDesk();
            for (int map : MAPS) {
                Answers.is(0, "sum of an empty map", full.sum(map));
            }
            full.setBound(20);
            for (int key = 0; key < 100; key++) {
                full.put(0, key, 999);
                full.put(1, key, 999);
            }
            Answers.is(99900, "the greatest sum of the free map", full.sum(0));
            Answers.is(19980, "the greatest sum of the bounded map", full.sum(1));
            full.put(1, 99, 0);
            Answers.is(18981, "sum", full.sum(1));
            full.clear(1);
            full.put(1, 0, 0);
            Answers.is(0, "sum of a value 0", full.sum(1));
        });
    }

    private static void askingByPlaces() {
        Sentences.test(11, "Returns how many there are.", () -> {
            LastUseDesk desk = new LastUseDesk();
            desk.setBound(20);
            for (int pairs = 0; pairs <= 21; pairs++) {
                Answers.is(pairs, "size of the free map", desk.size(0));
                Answers.is(Math.min(20, pairs), "size of the bounded map", desk.size(1));
                desk.put(0, pairs, 0);
                desk.put(1, pairs, 0);
            }
            Answers.is(100, "size of the full map", Desks.fullMaps().size(0));
        });
        Sentences.test(12, "Returns the key.", () -> {
            LastUseDesk full = Desks.fullMaps();
            for (int place = 0; place < 100; place++) {
                Answers.is(place, "keyAt of the full map", full.keyAt(0, place));
            }
            Answers.is(0, "keyAt of the full map", full.keyAt(1, 0));
            Answers.is(19, "keyAt of the full map", full.keyAt(1, 19));
        });
        Sentences.test(13, "Returns the value.", () -> {
            LastUseDesk full = Desks.fullMaps();
            for (int place = 0; place < 100; place++) {
                Answers.is(10 * place, "valueAt of the full map", full.valueAt(0, place));
            }
            Answers.is(0, "valueAt of the full map", full.valueAt(1, 0));
            Answers.is(190, "valueAt of the full map", full.valueAt(1, 19));
        });
        Sentences.test(14, "Returns the place, from 0; NONE if the key is not there.", () -> {
            LastUseDesk full = Desks.fullMaps();
            full.get(1, 0);
            for (int key = 0; key < 100; key++) {
                Answers.is(key, "placeOf", full.placeOf(0, key));
                int place = key < 20 ? (key + 19) % 20 : -1;
                Answers.is(place, "placeOf", full.placeOf(1, key));
            }
            for (int map : MAPS) {
                Answers.is(-1, "placeOf in an empty map", new LastUseDesk().placeOf(map, 0));
            }
        });
    }

    private static void putOut() {
        Sentences.test(2, "(A pair that was just put is the one used last.)", () -> {
            LastUseDesk desk = new LastUseDesk();
            desk.setBound(1);
            desk.put(1, 5, 50);
            desk.put(1, 6, 60);
            Answers.is("[6]", "the pair of the bound 1", Desks.keys(desk, 1));
            Answers.is(5, "lastPutOut", desk.lastPutOut());
            desk.putIfAbsent(1, 5, 51);
            Answers.is("[5]", "the pair of the bound 1", Desks.keys(desk, 1));
            Answers.is(6, "lastPutOut", desk.lastPutOut());
        });
        Sentences.test(16, "Returns how many.", () -> {
            LastUseDesk desk = new LastUseDesk();
            Answers.is(0, "putOut of a new desk", desk.putOut());
            desk.setBound(1);
            desk.put(1, 0, 0);
            Answers.is(0, "putOut at the bound", desk.putOut());
            for (int pair = 1; pair <= 200; pair++) {
                desk.put(1, pair % 100, 0);
                Answers.is(pair, "putOut", desk.putOut());
            }
            desk.setBound(20);
            Answers.is(200, "putOut behind a new bound", desk.putOut());
        });
        Sentences.test(17, "Returns the key; NONE if none was yet.", () -> {
            LastUseDesk desk = new LastUseDesk();
            Answers.is(-1, "lastPutOut of a new desk", desk.lastPutOut());
            fill(desk, 4, 1);
            fill(desk, 100, 0);
            Answers.is(-1, "lastPutOut of full maps", desk.lastPutOut());
            desk.put(1, 99, 0);
            Answers.is(0, "lastPutOut", desk.lastPutOut());
            desk.setBound(1);
            Answers.is(0, "lastPutOut behind a new bound", desk.lastPutOut());
            desk.put(1, 99, 0);
            desk.put(1, 1, 0);
            Answers.is(99, "lastPutOut", desk.lastPutOut());
        });
        leaving(8, desk -> desk.setBound(20), 0);
        leaving(6, desk -> desk.remove(1, 0), 19);
        leaving(7, desk -> desk.clear(1), 0);
        leaving(21, desk -> {
            desk.beginCursor(1);
            desk.next(1);
            desk.takeOut(1);
        }, 19);
    }

    /** That nothing counts as put out of a full map by a deed that leaves so many pairs. */
    private static void leaving(int promise, Deed deed, int left) {
        Sentences.test(promise, "A new bound empties the bounded map; pairs that leave by this, by"
                + " remove(), by clear(), or by a cursor, are not put out.", () -> {
            LastUseDesk desk = Desks.fullMaps();
            deed.on(desk);
            Answers.is(left, "size", desk.size(1));
            Answers.is(0, "putOut", desk.putOut());
            Answers.is(-1, "lastPutOut", desk.lastPutOut());
            desk.put(1, 50, 5);
            Answers.is(left + 1, "size behind one more put", desk.size(1));
            Answers.is(0, "putOut behind one more put", desk.putOut());
        });
    }

    private static void uses() {
        used(2, "put", (desk, map) -> desk.put(map, 10, 100));
        used(3, "putIfAbsent", (desk, map) -> desk.putIfAbsent(map, 10, 5));
        used(4, "get", (desk, map) -> desk.get(map, 10));
        used(5, "getOrDefault", (desk, map) -> desk.getOrDefault(map, 10, 5));
        Sentences.test(2, USES, () -> {
            for (int map : MAPS) {
                LastUseDesk desk = threePairs(map);
                desk.put(map, 40, 400);
                Answers.is("[10, 20, 30, 40]", "behind put of a new key", Desks.keys(desk, map));
            }
        });
        Sentences.test(3, USES, () -> {
            for (int map : MAPS) {
                LastUseDesk desk = threePairs(map);
                desk.putIfAbsent(map, 40, 400);
                Answers.is("[10, 20, 30, 40]", "behind putIfAbsent", Desks.keys(desk, map));
                Answers.is("[100, 200, 300, 400]", "behind putIfAbsent", Desks.values(desk, map));
            }
        });
        Sentences.test(12, "The order of a map goes from the pair whose last use is longest ago, the"
                + " eldest, to the one used last.", () -> {
            LastUseDesk desk = Desks.fullMaps();
            for (int key = 99; key >= 0; key--) {
                desk.get(0, key);
            }
            Answers.is(99, "the eldest", desk.keyAt(0, 0));
            Answers.is(50, "the one in the middle", desk.keyAt(0, 49));
            Answers.is(0, "the one used last", desk.keyAt(0, 99));
        });
    }

    /** That a call which leaves the pairs as they are is a use of the key 10. */
    private static void used(int promise, String name, DeedOnMap deed) {
        Sentences.test(promise, USES, () -> {
            for (int map : MAPS) {
                LastUseDesk desk = threePairs(map);
                deed.on(desk, map);
                Answers.is("[20, 30, 10]", "keys behind " + name, Desks.keys(desk, map));
                Answers.is("[200, 300, 100]", "values behind " + name, Desks.values(desk, map));
                deed.on(desk, map);
                Answers.is("[20, 30, 10]", "keys behind " + name, Desks.keys(desk, map));
                LastUseDesk one = new LastUseDesk();
                one.put(map, 10, 100);
                deed.on(one, map);
                Answers.is("[10]", "the only key behind " + name, Desks.keys(one, map));
            }
        });
    }

    private static void noUses() {
        notUsed(4, (desk, map) -> desk.get(map, 11));
        notUsed(5, (desk, map) -> desk.getOrDefault(map, 11, 5));
        notUsed(6, (desk, map) -> desk.remove(map, 11));
        notUsed(9, (desk, map) -> desk.hasKey(map, 10));
        notUsed(10, (desk, map) -> desk.hasValue(map, 100));
        notUsed(11, (desk, map) -> desk.size(map));
        notUsed(12, (desk, map) -> desk.keyAt(map, 0));
        notUsed(13, (desk, map) -> desk.valueAt(map, 0));
        notUsed(14, (desk, map) -> desk.placeOf(map, 10));
        notUsed(15, (desk, map) -> desk.sum(map));
        notUsed(18, (desk, map) -> desk.beginCursor(map));
        notUsed(20, (desk, map) -> {
            desk.beginCursor(map);
            desk.next(map);
        });
    }

    private static void notUsed(int promise, DeedOnMap deed) {
        Sentences.test(promise, "Nothing else is a use: not hasKey(), hasValue(), size(), nor asking"
                + " by places, nor a cursor.", () -> {
            for (int map : MAPS) {
                LastUseDesk desk = threePairs(map);
                deed.on(desk, map);
                Answers.is("[10, 20, 30]", "keys", Desks.keys(desk, map));
                Answers.is("[100, 200, 300]", "values", Desks.values(desk, map));
            }
        });
    }

    private interface Deed {
        void on(LastUseDesk desk);
    }

    private interface DeedOnMap {
        void on(LastUseDesk desk, int map);
    }

    private static LastUseDesk threePairs(int map) {
        LastUseDesk desk = new LastUseDesk();
        desk.put(map, 10, 100);
        desk.put(map, 20, 200);
        desk.put(map, 30, 300);
        return desk;
    }

    private static void fill(LastUseDesk desk, int pairs, int map) {
        for (int key = 0; key < pairs; key++) {
            desk.put(map, key, key);
        }
    }
}
