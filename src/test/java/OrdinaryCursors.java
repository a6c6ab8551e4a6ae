import java.util.NoSuchElementException;

/** Ordinary inputs: what each promise of the cursors says first (promises 18 to 21). */
final class OrdinaryCursors {
    private OrdinaryCursors() {
    }

    static void all() {
        Sentences.test(18, "Begins the cursor of a map, in place of one that there was.",
                OrdinaryCursors::beginCursor);
        Sentences.test(19, "Tells whether the cursor of a map has a next pair.",
                OrdinaryCursors::hasNext);
        Sentences.test(20, "Moves the cursor of a map to its next pair.", OrdinaryCursors::next);
        Sentences.test(21, "Takes the pair that the cursor gave last out of the map.",
                OrdinaryCursors::takeOut);
    }

    /** Both maps have the pairs of 2, 99 and 1 in this order. */
    private static LastUseDesk threePairs() {
        LastUseDesk desk = new LastUseDesk();
        for (int map = 0; map < 2; map++) {
            desk.put(map, 1, 11);
            desk.put(map, 2, 22);
            desk.put(map, 99, 999);
            desk.get(map, 1);
        }
        return desk;
    }

    private static void noMore(LastUseDesk desk, int map) {
        Answers.is(false, "hasNext at the end", desk.hasNext(map));
        Answers.thrown(NoSuchElementException.class, "next at the end", () -> desk.next(map));
    }

    private static void beginCursor() {
        LastUseDesk desk = threePairs();
        Answers.is(3, "beginCursor", desk.beginCursor(1));
        desk.next(1);
        desk.next(1);
        Answers.is(3, "beginCursor in place of one", desk.beginCursor(1));
        Answers.tooEarly("takeOut ahead of the eldest", () -> desk.takeOut(1));
        Answers.is(2022, "next", desk.next(1));
        Answers.tooEarly("next of the other map", () -> desk.next(0));
        desk.beginCursor(0);
        Answers.tooEarly("takeOut of the other map", () -> desk.takeOut(0));
        desk.put(0, 5, 5);
        Answers.is(99999, "next", desk.next(1));
    }

    private static void hasNext() {
        LastUseDesk desk = threePairs();
        Answers.is(false, "hasNext without a cursor", desk.hasNext(0));
        desk.beginCursor(0);
        for (int pair = 0; pair < 3; pair++) {
            Answers.is(true, "hasNext", desk.hasNext(0));
            Answers.is(true, "hasNext, which moves nothing,", desk.hasNext(0));
            desk.next(0);
        }
        Answers.is(false, "hasNext behind the last", desk.hasNext(0));
    }

    private static void next() {
        LastUseDesk desk = threePairs();
        desk.beginCursor(0);
        Answers.is(2022, "next", desk.next(0));
        Answers.is(99999, "next", desk.next(0));
        Answers.is(1011, "next", desk.next(0));
        noMore(desk, 0);
        noMore(desk, 0);
        Answers.is("[2, 99, 1]", "order", Desks.keys(desk, 0));
    }

    private static void takeOut() {
        LastUseDesk desk = threePairs();
        desk.beginCursor(1);
        Answers.tooEarly("takeOut ahead of the eldest", () -> desk.takeOut(1));
        desk.next(1);
        Answers.is(2, "takeOut", desk.takeOut(1));
        Answers.tooEarly("takeOut again", () -> desk.takeOut(1));
        Answers.is(true, "hasNext", desk.hasNext(1));
        Answers.is(99999, "next", desk.next(1));
        Answers.is(1011, "next", desk.next(1));
        noMore(desk, 1);
        Answers.is(1, "takeOut of the last", desk.takeOut(1));
        noMore(desk, 1);
        Answers.is("[99]", "order", Desks.keys(desk, 1));
        Answers.is(3, "size of the other map", desk.size(0));
        Answers.is(1, "beginCursor", desk.beginCursor(1));
        desk.next(1);
        Answers.is(0, "takeOut of all", desk.takeOut(1));
        noMore(desk, 1);
        Answers.is(-1, "put of one taken out", desk.put(1, 99, 1));
    }
}
