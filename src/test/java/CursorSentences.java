import java.util.NoSuchElementException;

/** Empty and full: the cursors, and what ends them (promises 18 to 21). */
final class CursorSentences {
    private static final int[] MAPS = Desks.numbers(0, 1);
    private static final String ENDS = "Any put(), putIfAbsent(), get(), getOrDefault(), remove(),"
            + " clear(), setBound() of the map, that throws no exception, ends its cursor, whether it"
            + " changes something or not.";

    private CursorSentences() {
    }

    static void all() {
        begun();
        emptyAndFull();
        takingOut();
        whatEndsACursor();
        whatLeavesACursor();
    }

    private static LastUseDesk threePairs() {
        LastUseDesk desk = new LastUseDesk();
        for (int map : MAPS) {
            desk.put(map, 1, 11);
            desk.put(map, 2, 22);
            desk.put(map, 3, 33);
        }
        return desk;
    }

    private static void begun() {
        Sentences.test(18, "There is at most one cursor for each map.", () -> {
            LastUseDesk desk = threePairs();
            desk.beginCursor(0);
            Answers.is(1011, "next of the map 0", desk.next(0));
            Answers.is(false, "hasNext of the map 1", desk.hasNext(1));
            Answers.tooEarly("next of the map 1", () -> desk.next(1));
            desk.beginCursor(1);
            Answers.tooEarly("takeOut of the map 1", () -> desk.takeOut(1));
            Answers.is(2022, "next of the map 0", desk.next(0));
            desk.clear(0);
            Answers.is(1011, "next of the map 1", desk.next(1));
        });
        Sentences.test(18, "Begins the cursor of a map, in place of one that there was.", () -> {
            for (int map : MAPS) {
                LastUseDesk desk = threePairs();
                desk.beginCursor(map);
                desk.next(map);
                desk.next(map);
                Answers.is(3, "beginCursor", desk.beginCursor(map));
                Answers.tooEarly("takeOut", () -> desk.takeOut(map));
                Answers.is(1011, "next", desk.next(map));
            }
        });
        Sentences.test(20, "It is begun ahead of the eldest pair, and goes on pair by pair in the"
                + " order of the map.", () -> {
            for (int map : MAPS) {
                LastUseDesk desk = threePairs();
                desk.get(map, 1);
                desk.beginCursor(map);
                Answers.is(2022, "next", desk.next(map));
                Answers.is(3033, "next", desk.next(map));
                Answers.is(1011, "next", desk.next(map));
                Answers.is("[2, 3, 1]", "keys", Desks.keys(desk, map));
            }
        });
    }

    private static void emptyAndFull() {
        Sentences.test(18, "Returns the number of pairs that it will give, if nothing is done"
                + " meanwhile.", () -> {
            LastUseDesk empty = new LastUseDesk();
            LastUseDesk full = Desks.fullMaps();
            for (int map : MAPS) {
                Answers.is(0, "beginCursor of an empty map", empty.beginCursor(map));
                empty.put(map, 0, 0);
                Answers.is(1, "beginCursor of one pair", empty.beginCursor(map));
                empty.next(map);
                empty.takeOut(map);
                Answers.is(0, "beginCursor behind takeOut", empty.beginCursor(map));
            }
            Answers.is(100, "beginCursor of the full free map", full.beginCursor(0));
            Answers.is(20, "beginCursor of the full bounded map", full.beginCursor(1));
        });
        Sentences.test(19, "Returns true if it has; false also without a cursor.", () -> {
            LastUseDesk empty = new LastUseDesk();
            LastUseDesk full = Desks.fullMaps();
            for (int map : MAPS) {
                Answers.is(false, "hasNext without a cursor", empty.hasNext(map));
                Answers.is(false, "hasNext without a cursor", full.hasNext(map));
                empty.beginCursor(map);
                Answers.is(false, "hasNext of an empty map", empty.hasNext(map));
            }
            full.beginCursor(1);
            for (int pair = 0; pair < 20; pair++) {
                Answers.is(true, "hasNext ahead of the pair " + pair, full.hasNext(1));
                full.next(1);
            }
            Answers.is(false, "hasNext behind the last pair", full.hasNext(1));
            full.takeOut(1);
            Answers.is(false, "hasNext behind the last pair taken out", full.hasNext(1));
            full.get(1, 0);
            Answers.is(false, "hasNext of an ended cursor", full.hasNext(1));
        });
        Sentences.test(20, "Returns 1000 times the key plus the value.", () -> {
            LastUseDesk desk = new LastUseDesk();
            desk.put(0, 0, 0);
            desk.put(0, 0, 999);
            desk.put(0, 99, 0);
            desk.put(1, 0, 0);
            desk.put(1, 99, 999);
            desk.beginCursor(0);
            desk.beginCursor(1);
            Answers.is(999, "next of 0 and 999", desk.next(0));
            Answers.is(99000, "next of 99 and 0", desk.next(0));
            Answers.is(0, "next of 0 and 0", desk.next(1));
            Answers.is(99999, "next of 99 and 999", desk.next(1));
            LastUseDesk full = Desks.fullMaps();
            full.beginCursor(0);
            for (int key = 0; key < 100; key++) {
                Answers.is(1010 * key, "next of the full map", full.next(0));
            }
            Answers.thrown(NoSuchElementException.class, "next behind 100", () -> full.next(0));
        });
        Sentences.test(21, "Returns the number of pairs that are left.", () -> {
            LastUseDesk full = Desks.fullMaps();
            full.beginCursor(0);
            for (int left = 99; left >= 0; left--) {
                full.next(0);
                Answers.is(left, "takeOut of the full map", full.takeOut(0));
            }
            Answers.is(false, "hasNext of the map that is empty now", full.hasNext(0));
            full.beginCursor(1);
            for (int pair = 0; pair < 20; pair++) {
                full.next(1);
            }
            Answers.is(19, "takeOut of the last", full.takeOut(1));
            Answers.is(false, "hasKey of the last", full.hasKey(1, 19));
        });
    }

    private static void takingOut() {
        Sentences.test(21, "What it gave last can be taken out of the map by it, once; this leaves the"
                + " cursor where it is.", () -> {
            for (int map : MAPS) {
                for (int taken = 0; taken < 3; taken++) {
                    LastUseDesk desk = threePairs();
                    desk.beginCursor(map);
                    for (int pair = 0; pair < 3; pair++) {
                        Answers.is(1011 * (pair + 1), "next", desk.next(map));
                        if (pair == taken) {
                            Answers.is(2, "takeOut", desk.takeOut(map));
                            Answers.tooEarly("takeOut again", () -> desk.takeOut(map));
                            Answers.is(pair < 2, "hasNext", desk.hasNext(map));
                        }
                    }
                    Answers.is(-1, "placeOf of the pair", desk.placeOf(map, taken + 1));
                    int last = taken == 2 ? 2 : 3;
                    Answers.is(1, "placeOf of the last that is left", desk.placeOf(map, last));
                }
            }
        });
        Sentences.test(21, "What it gave last can be taken out", () -> {
            LastUseDesk desk = threePairs();
            desk.beginCursor(1);
            desk.next(1);
            desk.next(1);
            Answers.is(2, "takeOut of the second", desk.takeOut(1));
            Answers.is("[1, 3]", "keys", Desks.keys(desk, 1));
            Answers.is(3033, "next", desk.next(1));
            Answers.thrown(NoSuchElementException.class, "next", () -> desk.next(1));
            Answers.is(1, "takeOut behind a refused next", desk.takeOut(1));
            Answers.is("[1]", "keys", Desks.keys(desk, 1));
        });
    }

    private interface Deed {
        void on(LastUseDesk desk, int map);
    }

    private static void whatEndsACursor() {
        ends(2, MAPS, (desk, map) -> desk.put(map, 3, 33));
        ends(2, MAPS, (desk, map) -> desk.put(map, 9, 9));
        ends(3, MAPS, (desk, map) -> desk.putIfAbsent(map, 3, 5));
        ends(3, MAPS, (desk, map) -> desk.putIfAbsent(map, 9, 9));
        ends(4, MAPS, (desk, map) -> desk.get(map, 3));
        ends(4, MAPS, (desk, map) -> desk.get(map, 1));
        ends(4, MAPS, (desk, map) -> desk.get(map, 9));
        ends(5, MAPS, (desk, map) -> desk.getOrDefault(map, 3, 5));
        ends(5, MAPS, (desk, map) -> desk.getOrDefault(map, 1, 5));
        ends(5, MAPS, (desk, map) -> desk.getOrDefault(map, 9, 5));
        ends(6, MAPS, (desk, map) -> desk.remove(map, 3));
        ends(6, MAPS, (desk, map) -> desk.remove(map, 9));
        ends(7, MAPS, (desk, map) -> desk.clear(map));
        ends(8, new int[] {1}, (desk, map) -> desk.setBound(4));
        ends(8, new int[] {1}, (desk, map) -> desk.setBound(20));
    }

    /** With pairs and without them, and that the other map's cursor goes on. */
    private static void ends(int promise, int[] maps, Deed deed) {
        Sentences.test(promise, ENDS, () -> {
            for (int map : maps) {
                LastUseDesk desk = threePairs();
                desk.beginCursor(0);
                desk.beginCursor(1);
                desk.next(map);
                deed.on(desk, map);
                isEnded(desk, map);
                Answers.is(1011, "next of the other map", desk.next(1 - map));
                LastUseDesk empty = new LastUseDesk();
                empty.beginCursor(map);
                deed.on(empty, map);
                isEnded(empty, map);
            }
        });
    }

    private static void isEnded(LastUseDesk desk, int map) {
        Answers.is(false, "hasNext", desk.hasNext(map));
        Answers.tooEarly("next", () -> desk.next(map));
        Answers.tooEarly("takeOut", () -> desk.takeOut(map));
    }

    private static void whatLeavesACursor() {
        leaves(2, (desk, map) -> Answers.illegal("put", () -> desk.put(map, 3, 1000)));
        leaves(3, (desk, map) -> Answers.illegal("putIfAbsent", () -> desk.putIfAbsent(map, 3, -1)));
        leaves(4, (desk, map) -> Answers.illegal("get", () -> desk.get(map, 100)));
        leaves(5, (desk, map) -> Answers.illegal("get", () -> desk.getOrDefault(map, -1, 5)));
        leaves(6, (desk, map) -> Answers.illegal("remove", () -> desk.remove(map, 100)));
        leaves(7, (desk, map) -> Answers.illegal("clear", () -> desk.clear(2)));
        leaves(8, (desk, map) -> Answers.illegal("setBound", () -> desk.setBound(21)));
        leaves(8, (desk, map) -> Answers.illegal("setBound", () -> desk.setBound(0)));
        leaves(9, (desk, map) -> desk.hasKey(map, 1));
        leaves(10, (desk, map) -> desk.hasValue(map, 11));
        leaves(11, (desk, map) -> desk.size(map));
        leaves(12, (desk, map) -> desk.keyAt(map, 2));
        leaves(13, (desk, map) -> desk.valueAt(map, 2));
        leaves(14, (desk, map) -> desk.placeOf(map, 1));
        leaves(15, (desk, map) -> desk.sum(map));
        leaves(19, (desk, map) -> desk.hasNext(map));
        leaves(22, (desk, map) -> desk.request(1));
        leaves(35, (desk, map) -> Desks.run(desk, "c1;s4;"));
        Sentences.test(8, "Sets the bound of the map 1", () -> {
            LastUseDesk desk = threePairs();
            desk.beginCursor(0);
            desk.setBound(5);
            Answers.is(1011, "next of the map 0", desk.next(0));
        });
    }

    private static void leaves(int promise, Deed deed) {
        Sentences.test(promise, "that throws no exception, ends its cursor", () -> {
            for (int map : MAPS) {
                LastUseDesk desk = threePairs();
                desk.beginCursor(map);
                desk.next(map);
                deed.on(desk, map);
                Answers.is(2, "takeOut", desk.takeOut(map));
                Answers.is(2022, "next", desk.next(map));
            }
        });
    }
}
