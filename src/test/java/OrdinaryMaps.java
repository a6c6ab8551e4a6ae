/** Ordinary inputs: what each promise of the maps says first (promises 2 to 17). */
final class OrdinaryMaps {
    private OrdinaryMaps() {
    }

    static void all() {
        Sentences.test(2, "Puts a pair.", OrdinaryMaps::put);
        Sentences.test(2, "the map 1 is bounded", OrdinaryMaps::puttingOut);
        Sentences.test(3, "Puts a pair if its key is not there.", OrdinaryMaps::putIfAbsent);
        Sentences.test(4, "Returns the value of a key.", OrdinaryMaps::get);
        Sentences.test(5, "Returns the value of a key, or another number.",
                OrdinaryMaps::getOrDefault);
        Sentences.test(6, "Removes a key and its value.", OrdinaryMaps::remove);
        Sentences.test(7, "Removes all pairs.", OrdinaryMaps::clear);
        Sentences.test(8, "Sets the bound of the map 1, which has no pairs then.",
                OrdinaryMaps::setBound);
        Sentences.test(9, "Tells whether a key is there.", OrdinaryMaps::hasKey);
        Sentences.test(10, "Tells whether some key has a value.", OrdinaryMaps::hasValue);
        Sentences.test(11, "Counts the pairs of a map.", OrdinaryMaps::size);
        Sentences.test(12, "Returns a key by its place in the order.", OrdinaryMaps::keyAt);
        Sentences.test(13, "Returns a value by its place in the order.", OrdinaryMaps::valueAt);
        Sentences.test(14, "Returns the place of a key in the order.", OrdinaryMaps::placeOf);
        Sentences.test(15, "Returns the sum of all values of a map.", OrdinaryMaps::sum);
        Sentences.test(16, "Counts the pairs that were put out of the map 1, since there is this"
                + " desk.", OrdinaryMaps::putOut);
        Sentences.test(17, "Returns the key that was put out of the map 1 last.",
                OrdinaryMaps::lastPutOut);
    }

    private static LastUseDesk threePairs(int map) {
        LastUseDesk desk = new LastUseDesk();
        desk.put(map, 10, 100);
        desk.put(map, 20, 200);
        desk.put(map, 30, 300);
        return desk;
    }

    private static void put() {
        for (int map = 0; map < 2; map++) {
            LastUseDesk desk = threePairs(map);
            Answers.is(-1, "put of a new key", desk.put(map, 0, 0));
            Answers.is(0, "put of a key with 0", desk.put(map, 0, 999));
            Answers.is(100, "put of a key", desk.put(map, 10, 101));
            Answers.is("[20, 30, 0, 10]", "order", Desks.keys(desk, map));
            Answers.is("[200, 300, 999, 101]", "values", Desks.values(desk, map));
            Answers.is(0, "size of the other map", desk.size(1 - map));
        }
    }

    private static void puttingOut() {
        LastUseDesk desk = threePairs(1);
        desk.put(1, 40, 400);
        desk.get(1, 10);
        Answers.is(-1, "put beyond the bound", desk.put(1, 50, 500));
        Answers.is("[30, 40, 10, 50]", "order", Desks.keys(desk, 1));
        Answers.is("[300, 400, 100, 500]", "values", Desks.values(desk, 1));
        Answers.is(-1, "get of one put out", desk.get(1, 20));
        Answers.is(-1, "put of one put out", desk.put(1, 20, 201));
        Answers.is("[40, 10, 50, 20]", "order", Desks.keys(desk, 1));
    }

    private static void putIfAbsent() {
        for (int map = 0; map < 2; map++) {
            LastUseDesk desk = threePairs(map);
            Answers.is(100, "putIfAbsent of a key", desk.putIfAbsent(map, 10, 5));
            Answers.is("[20, 30, 10]", "order", Desks.keys(desk, map));
            Answers.is("[200, 300, 100]", "values", Desks.values(desk, map));
            Answers.is(-1, "putIfAbsent of a new key", desk.putIfAbsent(map, 99, 0));
            Answers.is(0, "putIfAbsent of a key with 0", desk.putIfAbsent(map, 99, 7));
            Answers.is("[20, 30, 10, 99]", "order", Desks.keys(desk, map));
            Answers.is("[200, 300, 100, 0]", "values", Desks.values(desk, map));
        }
    }

    private static void get() {
        LastUseDesk desk = threePairs(0);
        Answers.is(200, "get", desk.get(0, 20));
        Answers.is("[10, 30, 20]", "order", Desks.keys(desk, 0));
        Answers.is(-1, "get of no key", desk.get(0, 21));
        Answers.is("[10, 30, 20]", "order", Desks.keys(desk, 0));
        desk.put(0, 7, 0);
        Answers.is(0, "get of a key with 0", desk.get(0, 7));
        Answers.is(-1, "get from the other map", desk.get(1, 20));
    }

    private static void getOrDefault() {
        LastUseDesk desk = threePairs(1);
        Answers.is(100, "getOrDefault", desk.getOrDefault(1, 10, 7));
        Answers.is("[20, 30, 10]", "order", Desks.keys(desk, 1));
        Answers.is(7, "getOrDefault of no key", desk.getOrDefault(1, 11, 7));
        Answers.is("[20, 30, 10]", "order, with nothing put,", Desks.keys(desk, 1));
        Answers.is(100, "getOrDefault, with the value first,", desk.getOrDefault(1, 10, -1));
    }

    private static void remove() {
        LastUseDesk desk = threePairs(1);
        Answers.is(200, "remove", desk.remove(1, 20));
        Answers.is(-1, "remove again", desk.remove(1, 20));
        Answers.is("[10, 30]", "order", Desks.keys(desk, 1));
        Answers.is("[100, 300]", "values", Desks.values(desk, 1));
        Answers.is(-1, "get of one removed", desk.get(1, 20));
        Answers.is(-1, "put of one removed", desk.put(1, 20, 2));
        Answers.is("[10, 30, 20]", "order", Desks.keys(desk, 1));
    }

    private static void clear() {
        LastUseDesk desk = threePairs(1);
        desk.put(0, 1, 1);
        Answers.is(3, "clear", desk.clear(1));
        Answers.is(0, "clear again", desk.clear(1));
        Answers.is(false, "hasKey", desk.hasKey(1, 10));
        Answers.is(-1, "get", desk.get(1, 10));
        Answers.is(1, "size of the other map", desk.size(0));
        Answers.is(4, "setBound: the bound stays;", desk.setBound(1));
    }

    private static void setBound() {
        LastUseDesk desk = threePairs(1);
        desk.put(0, 1, 1);
        Answers.is(4, "setBound to the same", desk.setBound(4));
        Answers.is(0, "size", desk.size(1));
        Answers.is(1, "size of the free map", desk.size(0));
        Answers.is(4, "setBound", desk.setBound(2));
        desk.put(1, 5, 5);
        desk.put(1, 6, 6);
        desk.put(1, 7, 7);
        Answers.is("[6, 7]", "order", Desks.keys(desk, 1));
        Answers.illegal("setBound", () -> desk.setBound(21));
        Answers.is(2, "setBound behind a wrong one", desk.setBound(3));
    }

    private static void hasKey() {
        LastUseDesk desk = threePairs(0);
        Answers.is(true, "hasKey", desk.hasKey(0, 10));
        Answers.is(false, "hasKey of no key", desk.hasKey(0, 11));
        Answers.is(false, "hasKey of the other map", desk.hasKey(1, 10));
        desk.remove(0, 10);
        Answers.is(false, "hasKey of one removed", desk.hasKey(0, 10));
    }

    private static void hasValue() {
        LastUseDesk desk = threePairs(0);
        Answers.is(true, "hasValue of the eldest", desk.hasValue(0, 100));
        Answers.is(true, "hasValue of the last", desk.hasValue(0, 300));
        Answers.is(false, "hasValue of a key", desk.hasValue(0, 10));
        Answers.is(false, "hasValue of the other map", desk.hasValue(1, 100));
        desk.put(0, 10, 1);
        desk.remove(0, 20);
        Answers.is(false, "hasValue of one put over", desk.hasValue(0, 100));
        Answers.is(false, "hasValue of one removed", desk.hasValue(0, 200));
        Answers.is(true, "hasValue of the new one", desk.hasValue(0, 1));
    }

    private static void size() {
        LastUseDesk desk = threePairs(0);
        Answers.is(3, "size", desk.size(0));
        Answers.is(0, "size of the other map", desk.size(1));
        desk.put(0, 10, 1);
        Answers.is(3, "size behind put of a key that is there", desk.size(0));
        desk.remove(0, 20);
        Answers.is(2, "size behind remove", desk.size(0));
    }

    private static void keyAt() {
        LastUseDesk desk = threePairs(1);
        desk.get(1, 10);
        Answers.is(20, "keyAt", desk.keyAt(1, 0));
        Answers.is(30, "keyAt", desk.keyAt(1, 1));
        Answers.is(10, "keyAt", desk.keyAt(1, 2));
        Answers.noPlace("keyAt", () -> desk.keyAt(1, 3));
    }

    private static void valueAt() {
        LastUseDesk desk = threePairs(1);
        desk.get(1, 10);
        Answers.is(200, "valueAt", desk.valueAt(1, 0));
        Answers.is(300, "valueAt", desk.valueAt(1, 1));
        Answers.is(100, "valueAt", desk.valueAt(1, 2));
        Answers.noPlace("valueAt", () -> desk.valueAt(1, 3));
    }

    private static void placeOf() {
        LastUseDesk desk = threePairs(1);
        desk.get(1, 10);
        Answers.is(0, "placeOf", desk.placeOf(1, 20));
        Answers.is(1, "placeOf", desk.placeOf(1, 30));
        Answers.is(2, "placeOf", desk.placeOf(1, 10));
        Answers.is(-1, "placeOf of no key", desk.placeOf(1, 11));
        Answers.is(-1, "placeOf in the other map", desk.placeOf(0, 10));
    }

    private static void sum() {
        LastUseDesk desk = threePairs(0);
        Answers.is(600, "sum", desk.sum(0));
        desk.put(0, 20, 999);
        Answers.is(1399, "sum", desk.sum(0));
        desk.remove(0, 10);
        Answers.is(1299, "sum", desk.sum(0));
        Answers.is(0, "sum of the other map", desk.sum(1));
    }

    private static void putOut() {
        LastUseDesk desk = threePairs(1);
        desk.put(1, 40, 400);
        Answers.is(0, "putOut at the bound", desk.putOut());
        desk.put(1, 50, 500);
        desk.putIfAbsent(1, 60, 600);
        Answers.is(2, "putOut", desk.putOut());
        desk.putIfAbsent(1, 60, 1);
        desk.clear(1);
        desk.setBound(1);
        desk.put(0, 70, 700);
        Answers.is(2, "putOut, kept,", desk.putOut());
        desk.put(1, 1, 1);
        desk.put(1, 2, 2);
        Answers.is(3, "putOut of all bounds", desk.putOut());
    }

    private static void lastPutOut() {
        LastUseDesk desk = threePairs(1);
        desk.put(1, 40, 400);
        Answers.is(-1, "lastPutOut at the bound", desk.lastPutOut());
        desk.get(1, 10);
        desk.put(1, 50, 500);
        Answers.is(20, "lastPutOut", desk.lastPutOut());
        desk.putIfAbsent(1, 20, 201);
        Answers.is(30, "lastPutOut", desk.lastPutOut());
        desk.remove(1, 40);
        desk.clear(1);
        Answers.is(30, "lastPutOut, kept,", desk.lastPutOut());
    }
}
