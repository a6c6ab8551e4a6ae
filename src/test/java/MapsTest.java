/** Promises 2 to 17: maps. */
public final class MapsTest {
    public static void main(String[] args) {
        putAndUse();
        putIfAbsent();
        get();
        getOrDefault();
        remove();
        clear();
        setBound();
        lookUps();
        places();
        sums();
        puttingOut();
        Answers.end();
    }

    private static LastUseDesk threePairs(int map) {
        LastUseDesk desk = new LastUseDesk();
        desk.put(map, 10, 100);
        desk.put(map, 20, 200);
        desk.put(map, 30, 300);
        return desk;
    }

    private static void putAndUse() {
        for (int map = 0; map < 2; map++) {
            int chosen = map;
            LastUseDesk desk = threePairs(map);
            Answers.due(-1, "put of a new key", () -> desk.put(chosen, 0, 0));
            Answers.due(0, "put of a key with 0", () -> desk.put(chosen, 0, 999));
            Answers.due(100, "put of a key", () -> desk.put(chosen, 10, 101));
            Answers.due("[20, 30, 0, 10]", "order", () -> Desks.keys(desk, chosen));
            Answers.due("[200, 300, 999, 101]", "values", () -> Desks.values(desk, chosen));
            Answers.due(0, "the other map", () -> desk.size(1 - chosen));
        }
        LastUseDesk full = new LastUseDesk();
        for (int key = 0; key < 100; key++) {
            full.put(0, key, 999);
        }
        Answers.due(100, "size of all keys", () -> full.size(0));
        Answers.due(99900, "sum of all keys", () -> full.sum(0));
        Answers.due(999, "put of the eldest", () -> full.put(0, 0, 1));
        Answers.due(0, "placed last", () -> full.keyAt(0, 99));
        Answers.due(0, "the free map puts nothing out", full::putOut);
    }

    private static void putIfAbsent() {
        for (int map = 0; map < 2; map++) {
            int chosen = map;
            LastUseDesk desk = threePairs(map);
            Answers.due(100, "putIfAbsent of a key", () -> desk.putIfAbsent(chosen, 10, 5));
            Answers.due("[20, 30, 10]", "it is a use", () -> Desks.keys(desk, chosen));
            Answers.due("[200, 300, 100]", "the value stays", () -> Desks.values(desk, chosen));
            Answers.due(-1, "putIfAbsent of a new key", () -> desk.putIfAbsent(chosen, 99, 0));
            Answers.due(0, "putIfAbsent of a key with 0", () -> desk.putIfAbsent(chosen, 99, 7));
            Answers.due("[20, 30, 10, 99]", "order", () -> Desks.keys(desk, chosen));
            Answers.due("[200, 300, 100, 0]", "values", () -> Desks.values(desk, chosen));
        }
        LastUseDesk desk = threePairs(1);
        desk.put(1, 40, 400);
        desk.putIfAbsent(1, 10, 1);
        Answers.due(0, "a use puts nothing out", desk::putOut);
        desk.putIfAbsent(1, 50, 500);
        Answers.due(20, "putIfAbsent puts the eldest out", desk::lastPutOut);
        Answers.due("[30, 40, 10, 50]", "order", () -> Desks.keys(desk, 1));
    }

    private static void get() {
        LastUseDesk desk = threePairs(0);
        Answers.due(200, "get", () -> desk.get(0, 20));
        Answers.due("[10, 30, 20]", "it is a use", () -> Desks.keys(desk, 0));
        Answers.due(-1, "get of no key", () -> desk.get(0, 21));
        Answers.due("[10, 30, 20]", "order", () -> Desks.keys(desk, 0));
        desk.put(0, 7, 0);
        Answers.due(0, "get of 0", () -> desk.get(0, 7));
        Answers.due(-1, "get in the other map", () -> desk.get(1, 20));
    }

    private static void getOrDefault() {
        LastUseDesk desk = threePairs(1);
        Answers.due(100, "getOrDefault", () -> desk.getOrDefault(1, 10, 7));
        Answers.due("[20, 30, 10]", "it is a use", () -> Desks.keys(desk, 1));
        Answers.due(7, "getOrDefault of no key", () -> desk.getOrDefault(1, 11, 7));
        for (int other : new int[] {Integer.MIN_VALUE, Integer.MAX_VALUE, -1, 1000}) {
            Answers.due(other, "getOrDefault of no key", () -> desk.getOrDefault(1, 11, other));
        }
        Answers.due("[20, 30, 10]", "it puts nothing", () -> Desks.keys(desk, 1));
        Answers.due(100, "a value before the default", () -> desk.getOrDefault(1, 10, -1));
    }

    private static void remove() {
        LastUseDesk desk = threePairs(1);
        Answers.due(200, "remove", () -> desk.remove(1, 20));
        Answers.due(-1, "remove again", () -> desk.remove(1, 20));
        Answers.due("[10, 30]", "order", () -> Desks.keys(desk, 1));
        Answers.due(0, "a removed pair is not put out", desk::putOut);
        Answers.due(-1, "a removed pair is not put out", desk::lastPutOut);
        Answers.due(-1, "its value is gone", () -> desk.get(1, 20));
        Answers.due(-1, "put after remove", () -> desk.put(1, 20, 2));
        Answers.due("[10, 30, 20]", "order", () -> Desks.keys(desk, 1));
    }

    private static void clear() {
        LastUseDesk desk = threePairs(1);
        desk.put(0, 1, 1);
        Answers.due(3, "clear", () -> desk.clear(1));
        Answers.due(0, "clear again", () -> desk.clear(1));
        Answers.due(false, "hasKey", () -> desk.hasKey(1, 10));
        Answers.due(-1, "get", () -> desk.get(1, 10));
        Answers.due(1, "size of the other map", () -> desk.size(0));
        Answers.due(0, "cleared pairs are not put out", desk::putOut);
        Answers.due(4, "the bound stays", () -> desk.setBound(1));
    }

    private static void setBound() {
        LastUseDesk desk = threePairs(1);
        desk.put(0, 1, 1);
        Answers.due(4, "setBound to the same", () -> desk.setBound(4));
        Answers.due(0, "it empties the map", () -> desk.size(1));
        Answers.due(1, "but not the free one", () -> desk.size(0));
        Answers.due(0, "and puts nothing out", desk::putOut);
        Answers.due(4, "setBound to the least", () -> desk.setBound(1));
        desk.put(1, 5, 5);
        desk.put(1, 6, 6);
        Answers.due("[6]", "one pair", () -> Desks.keys(desk, 1));
        Answers.due(1, "setBound to the greatest", () -> desk.setBound(20));
        for (int key = 0; key < 21; key++) {
            desk.put(1, key, key);
        }
        Answers.due(20, "twenty pairs", () -> desk.size(1));
        Answers.due(0, "the eldest was put out", desk::lastPutOut);
        Answers.due(2, "putOut is kept", desk::putOut);
        Answers.due(20, "setBound", () -> desk.setBound(3));
        Answers.due(0, "lastPutOut is kept", desk::lastPutOut);
        for (int bound : new int[] {0, -1, 21, Integer.MIN_VALUE, Integer.MAX_VALUE}) {
            Answers.illegal("setBound", () -> desk.setBound(bound));
        }
        Answers.due(3, "a wrong bound changes nothing", () -> desk.setBound(3));
    }

    private static void lookUps() {
        LastUseDesk desk = threePairs(0);
        Answers.due(true, "hasKey", () -> desk.hasKey(0, 10));
        Answers.due(false, "hasKey", () -> desk.hasKey(0, 11));
        Answers.due(false, "hasKey in the other map", () -> desk.hasKey(1, 10));
        Answers.due(true, "hasValue", () -> desk.hasValue(0, 100));
        Answers.due(true, "hasValue of the last", () -> desk.hasValue(0, 300));
        Answers.due(false, "hasValue", () -> desk.hasValue(0, 10));
        Answers.due(false, "hasValue in the other map", () -> desk.hasValue(1, 100));
        Answers.due(3, "size", () -> desk.size(0));
        Answers.due("[10, 20, 30]", "no use", () -> Desks.keys(desk, 0));
        desk.put(0, 10, 1);
        desk.remove(0, 20);
        Answers.due(false, "hasValue of one put over", () -> desk.hasValue(0, 100));
        Answers.due(false, "hasValue of one removed", () -> desk.hasValue(0, 200));
        Answers.due(2, "size", () -> desk.size(0));
    }

    private static void places() {
        LastUseDesk desk = threePairs(1);
        desk.get(1, 10);
        Answers.due(20, "keyAt", () -> desk.keyAt(1, 0));
        Answers.due(10, "keyAt", () -> desk.keyAt(1, 2));
        Answers.due(200, "valueAt", () -> desk.valueAt(1, 0));
        Answers.due(100, "valueAt", () -> desk.valueAt(1, 2));
        Answers.due(0, "placeOf", () -> desk.placeOf(1, 20));
        Answers.due(2, "placeOf", () -> desk.placeOf(1, 10));
        Answers.due(-1, "placeOf of no key", () -> desk.placeOf(1, 11));
        Answers.due("[20, 30, 10]", "no use", () -> Desks.keys(desk, 1));
        for (int place : new int[] {-1, 3, Integer.MIN_VALUE, Integer.MAX_VALUE}) {
            Answers.noPlace("keyAt", () -> desk.keyAt(1, place));
            Answers.noPlace("valueAt", () -> desk.valueAt(1, place));
        }
        Answers.noPlace("keyAt without pairs", () -> desk.keyAt(0, 0));
        Answers.noPlace("valueAt without pairs", () -> desk.valueAt(0, 0));
        Answers.illegal("keyAt of no map and no place", () -> desk.keyAt(2, -1));
        Answers.illegal("valueAt of no map and no place", () -> desk.valueAt(-1, 9));
    }

    private static void sums() {
        LastUseDesk desk = threePairs(0);
        Answers.due(600, "sum", () -> desk.sum(0));
        desk.put(0, 20, 999);
        Answers.due(1399, "sum", () -> desk.sum(0));
        desk.remove(0, 10);
        Answers.due(1299, "sum", () -> desk.sum(0));
        Answers.due(0, "sum without pairs", () -> desk.sum(1));
        Answers.due("[30, 20]", "no use", () -> Desks.keys(desk, 0));
    }

    private static void puttingOut() {
        LastUseDesk desk = threePairs(1);
        desk.put(1, 40, 400);
        Answers.due(0, "putOut at the bound", desk::putOut);
        Answers.due(-1, "lastPutOut at the bound", desk::lastPutOut);
        desk.get(1, 10);
        Answers.due(-1, "put beyond the bound", () -> desk.put(1, 50, 500));
        Answers.due(1, "putOut", desk::putOut);
        Answers.due(20, "lastPutOut", desk::lastPutOut);
        Answers.due("[30, 40, 10, 50]", "order", () -> Desks.keys(desk, 1));
        Answers.due(-1, "put of one put out", () -> desk.put(1, 20, 201));
        Answers.due(2, "putOut", desk::putOut);
        Answers.due(30, "lastPutOut", desk::lastPutOut);
        desk.put(1, 40, 1);
        desk.clear(1);
        desk.remove(1, 40);
        Answers.due(2, "putOut", desk::putOut);
        Answers.due(30, "lastPutOut", desk::lastPutOut);
    }
}
