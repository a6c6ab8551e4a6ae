import java.util.NoSuchElementException;

/** Promises 18 to 21: cursors. */
public final class CursorsTest {
    public static void main(String[] args) {
        goingThrough();
        beginningAnew();
        takingOut();
        eachMapHasItsOwn();
        whatLeavesACursor();
        Answers.end();
    }

    private static LastUseDesk threePairs() {
        LastUseDesk desk = new LastUseDesk();
        for (int map = 0; map < 2; map++) {
            desk.put(map, 1, 11);
            desk.put(map, 2, 22);
            desk.put(map, 99, 999);
            desk.get(map, 1);
        }
        return desk;
    }

    private static void noMore(LastUseDesk desk, int map) {
        Answers.due(false, "hasNext at the end", () -> desk.hasNext(map));
        Answers.thrown(NoSuchElementException.class, "next at the end", () -> desk.next(map));
    }

    private static void goingThrough() {
        LastUseDesk desk = threePairs();
        Answers.due(3, "beginCursor", () -> desk.beginCursor(0));
        Answers.due(true, "hasNext", () -> desk.hasNext(0));
        Answers.due(true, "hasNext moves nothing", () -> desk.hasNext(0));
        Answers.due(2022, "next", () -> desk.next(0));
        Answers.due(99999, "next", () -> desk.next(0));
        Answers.due(1011, "next", () -> desk.next(0));
        noMore(desk, 0);
        noMore(desk, 0);
        Answers.due("[2, 99, 1]", "no use", () -> Desks.keys(desk, 0));
        LastUseDesk empty = new LastUseDesk();
        Answers.due(0, "beginCursor without pairs", () -> empty.beginCursor(1));
        noMore(empty, 1);
        LastUseDesk zero = new LastUseDesk();
        zero.put(0, 0, 0);
        zero.beginCursor(0);
        Answers.due(0, "next of 0 and 0", () -> zero.next(0));
    }

    private static void beginningAnew() {
        LastUseDesk desk = threePairs();
        desk.beginCursor(1);
        desk.next(1);
        desk.next(1);
        Answers.due(3, "beginCursor in place of one", () -> desk.beginCursor(1));
        Answers.tooEarly("takeOut ahead of the eldest", () -> desk.takeOut(1));
        Answers.due(2022, "next", () -> desk.next(1));
    }

    private static void takingOut() {
        LastUseDesk desk = threePairs();
        desk.beginCursor(1);
        Answers.tooEarly("takeOut ahead of the eldest", () -> desk.takeOut(1));
        desk.next(1);
        Answers.due(2, "takeOut", () -> desk.takeOut(1));
        Answers.tooEarly("takeOut again", () -> desk.takeOut(1));
        Answers.due(true, "hasNext", () -> desk.hasNext(1));
        Answers.due(99999, "next", () -> desk.next(1));
        Answers.due(1011, "next", () -> desk.next(1));
        noMore(desk, 1);
        Answers.due(1, "takeOut of the last", () -> desk.takeOut(1));
        noMore(desk, 1);
        Answers.tooEarly("takeOut again", () -> desk.takeOut(1));
        Answers.due("[99]", "order", () -> Desks.keys(desk, 1));
        Answers.due(0, "a pair taken out is not put out", desk::putOut);
        Answers.due(-1, "a pair taken out is not put out", desk::lastPutOut);
        Answers.due(3, "the other map", () -> desk.size(0));
        Answers.due(1, "beginCursor", () -> desk.beginCursor(1));
        desk.next(1);
        Answers.due(0, "takeOut of all", () -> desk.takeOut(1));
        noMore(desk, 1);
        Answers.due(-1, "put of one taken out", () -> desk.put(1, 99, 1));
    }

    private static void eachMapHasItsOwn() {
        LastUseDesk desk = threePairs();
        desk.beginCursor(0);
        Answers.tooEarly("next of the other map", () -> desk.next(1));
        desk.beginCursor(1);
        desk.next(0);
        Answers.tooEarly("takeOut of the other map", () -> desk.takeOut(1));
        desk.put(0, 5, 5);
        Answers.due(2022, "next of the other map", () -> desk.next(1));
        Answers.tooEarly("next", () -> desk.next(0));
    }

    private static void whatLeavesACursor() {
        LastUseDesk desk = threePairs();
        desk.beginCursor(1);
        desk.next(1);
        desk.hasKey(1, 2);
        desk.hasValue(1, 22);
        desk.size(1);
        desk.keyAt(1, 0);
        desk.valueAt(1, 0);
        desk.placeOf(1, 2);
        desk.sum(1);
        desk.putOut();
        desk.lastPutOut();
        desk.request(2);
        desk.clearCaches();
        Desks.run(desk, "c1;s4;");
        desk.setFrames(1);
        desk.put(0, 2, 1);
        Answers.illegal("put out of range", () -> desk.put(1, 2, 1000));
        Answers.due(2, "takeOut", () -> desk.takeOut(1));
        Answers.due(99999, "next", () -> desk.next(1));
    }
}
