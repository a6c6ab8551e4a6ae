/** Promise 1, and that each object stands for itself. */
public final class NewDeskTest {
    public static void main(String[] args) {
        LastUseDesk desk = new LastUseDesk();
        for (int map = 0; map < 2; map++) {
            int chosen = map;
            Answers.due(0, "size", () -> desk.size(chosen));
            Answers.due(0, "sum", () -> desk.sum(chosen));
            Answers.due(false, "hasKey", () -> desk.hasKey(chosen, 0));
            Answers.due(false, "hasValue", () -> desk.hasValue(chosen, 0));
            Answers.due(false, "hasNext", () -> desk.hasNext(chosen));
            Answers.tooEarly("next", () -> desk.next(chosen));
            Answers.tooEarly("takeOut", () -> desk.takeOut(chosen));
        }
        Answers.due(0, "putOut", desk::putOut);
        Answers.due(-1, "lastPutOut", desk::lastPutOut);
        for (int cache = 1; cache <= 8; cache++) {
            int chosen = cache;
            Answers.due(0, "cached", () -> desk.cached(chosen));
            Answers.due(0, "hits", () -> desk.hits(chosen));
            Answers.due(false, "isCached", () -> desk.isCached(chosen, 0));
            Answers.due(0.0f, "hitShare", () -> desk.hitShare(chosen));
        }
        Answers.due(0, "requests", desk::requests);
        Answers.due(0.0, "meanDistance", desk::meanDistance);
        Answers.due(0, "errors", desk::errors);
        Answers.due(-1, "errorPosition", desk::errorPosition);
        Answers.due(0, "accumulator", desk::accumulator);
        Answers.due(0, "resident", desk::resident);
        Answers.noPlace("residentAt", () -> desk.residentAt(0));
        Answers.due(0, "faults", desk::faults);
        Answers.due(0, "writes", desk::writes);
        for (int address = 0; address < 64; address++) {
            int chosen = address;
            Answers.due(chosen, "wordAt", () -> desk.wordAt(chosen));
            Answers.due(chosen, "discAt", () -> desk.discAt(chosen));
        }
        for (int page = 0; page < 16; page++) {
            int chosen = page;
            Answers.due(false, "isDirty", () -> desk.isDirty(chosen));
        }
        Answers.due(0, "clearTape", desk::clearTape);
        Answers.due(4, "setBound", () -> desk.setBound(4));
        Answers.due("[2, 3]", "two frames at first", () -> {
            Desks.run(desk, "l4;l8;l12;");
            return Desks.pages(desk);
        });
        Answers.due(-1, "NONE", () -> LastUseDesk.NONE);
        standsForItself();
        Answers.end();
    }

    private static void standsForItself() {
        String fresh = Desks.state(new LastUseDesk());
        LastUseDesk used = new LastUseDesk();
        LastUseDesk other = new LastUseDesk();
        used.put(0, 1, 2);
        used.put(1, 3, 4);
        used.beginCursor(0);
        used.request(5);
        Desks.run(used, "c9;s0;");
        Answers.due(fresh, "another desk", () -> Desks.state(other));
    }
}
