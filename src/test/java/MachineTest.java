/** Promises 37 to 46: the machine. */
public final class MachineTest {
    public static void main(String[] args) {
        pagesByLastUse();
        faults();
        accessesAreRequests();
        dirtyPages();
        writtenWhenTheyLeave();
        flushing();
        frames();
        words();
        wrapping();
        Answers.end();
    }

    private static LastUseDesk ran(String text) {
        LastUseDesk desk = new LastUseDesk();
        Desks.run(desk, text);
        return desk;
    }

    private static void pagesByLastUse() {
        Answers.due("[]", "a constant", () -> Desks.pages(ran("c5;")));
        Answers.due("[0]", "word 3", () -> Desks.pages(ran("l3;")));
        Answers.due("[1]", "word 4", () -> Desks.pages(ran("l4;")));
        Answers.due("[15]", "word 63", () -> Desks.pages(ran("l63;")));
        Answers.due("[0, 1]", "two pages", () -> Desks.pages(ran("l0;l4;")));
        Answers.due("[1, 0]", "l is a use", () -> Desks.pages(ran("l0;l4;l1;")));
        Answers.due("[1, 0]", "s is a use", () -> Desks.pages(ran("l0;l4;s1;")));
        Answers.due("[1, 0]", "a is a use", () -> Desks.pages(ran("l0;l4;a1;")));
        Answers.due("[0, 2]", "the eldest leaves", () -> Desks.pages(ran("l0;l4;l1;l8;")));
        LastUseDesk desk = ran("l0;l4;");
        desk.wordAt(0);
        desk.discAt(0);
        desk.isDirty(0);
        desk.flush();
        desk.request(0);
        Answers.due("[0, 1]", "no access", () -> Desks.pages(desk));
        for (int place : new int[] {-1, 2, Integer.MIN_VALUE, Integer.MAX_VALUE}) {
            Answers.noPlace("residentAt", () -> desk.residentAt(place));
        }
    }

    private static void faults() {
        Answers.due(0, "faults of a constant", () -> ran("c0;").faults());
        Answers.due(1, "faults of one page", () -> ran("l0;s1;a2;l3;").faults());
        Answers.due(3, "faults", () -> ran("l0;l4;l8;l4;").faults());
        Answers.due(4, "faults", () -> ran("l0;l4;l8;l0;").faults());
        LastUseDesk desk = ran("l0;l4;l8;");
        desk.setFrames(2);
        desk.clearCaches();
        Answers.due(3, "faults are kept", desk::faults);
        Desks.run(desk, "l8;");
        Answers.due(4, "faults behind setFrames", desk::faults);
    }

    private static void accessesAreRequests() {
        LastUseDesk desk = ran("c5;l63;s0;a1;c6;");
        Answers.due(3, "requests", desk::requests);
        Answers.due(15, "requestAt", () -> desk.requestAt(0));
        Answers.due(0, "requestAt", () -> desk.requestAt(1));
        Answers.due(0, "requestAt", () -> desk.requestAt(2));
        Answers.due(1, "hits", () -> desk.hits(1));
        Answers.due("[15, 0]", "cached", () -> Desks.cached(desk, 2));
        Answers.due(254, "request", () -> desk.request(15));
        Answers.due("[15, 0]", "a request is no access", () -> Desks.pages(desk));
        Answers.due(2, "a request is no fault", desk::faults);
        desk.clearCaches();
        Desks.run(desk, "l63;");
        Answers.due(0, "hits", () -> desk.hits(8));
        Answers.due(2, "the page was still resident", desk::faults);
        Answers.due(0, "errors", desk::errors);
    }

    private static void dirtyPages() {
        LastUseDesk desk = ran("c7;l0;a5;");
        Answers.due(false, "isDirty of a page read", () -> desk.isDirty(0));
        Answers.due(false, "isDirty of a page read", () -> desk.isDirty(1));
        Desks.run(desk, "l9;s9;");
        Answers.due(true, "isDirty with the same word", () -> desk.isDirty(2));
        Answers.due(0, "writes", desk::writes);
        Desks.run(desk, "c1;s62;");
        Answers.due(true, "isDirty", () -> desk.isDirty(15));
        Answers.due(true, "isDirty", () -> desk.isDirty(2));
        Desks.run(desk, "l0;");
        Answers.due(false, "isDirty of one that left", () -> desk.isDirty(2));
        Answers.due(1, "writes", desk::writes);
        Desks.run(desk, "l9;");
        Answers.due(false, "isDirty of one read again", () -> desk.isDirty(2));
        Answers.due(2, "writes", desk::writes);
    }

    private static void writtenWhenTheyLeave() {
        LastUseDesk desk = ran("c7;s0;c8;s3;");
        Answers.due(0, "discAt ahead", () -> desk.discAt(0));
        Answers.due(7, "wordAt ahead", () -> desk.wordAt(0));
        Answers.due(1, "wordAt of a word left alone", () -> desk.wordAt(1));
        Desks.run(desk, "l4;");
        Answers.due(0, "discAt while it is resident", () -> desk.discAt(0));
        Desks.run(desk, "l8;");
        Answers.due(7, "discAt", () -> desk.discAt(0));
        Answers.due(1, "discAt", () -> desk.discAt(1));
        Answers.due(8, "discAt", () -> desk.discAt(3));
        Answers.due(4, "discAt of another page", () -> desk.discAt(4));
        Answers.due(7, "wordAt", () -> desk.wordAt(0));
        Answers.due(1, "writes", desk::writes);
        Desks.run(desk, "l12;l16;l20;");
        Answers.due(1, "clean pages are not written", desk::writes);
        Desks.run(desk, "l0;a3;");
        Answers.due(15, "the words come back", desk::accumulator);
    }

    private static void flushing() {
        LastUseDesk desk = ran("c7;s0;c8;s4;");
        Answers.due(2, "flush", desk::flush);
        Answers.due(0, "flush again", desk::flush);
        Answers.due(2, "writes", desk::writes);
        Answers.due(7, "discAt", () -> desk.discAt(0));
        Answers.due(8, "discAt", () -> desk.discAt(4));
        Answers.due(false, "isDirty", () -> desk.isDirty(0));
        Answers.due("[0, 1]", "they stay resident", () -> Desks.pages(desk));
        Desks.run(desk, "c9;s1;");
        Answers.due(2, "no fault", desk::faults);
        Answers.due(true, "isDirty", () -> desk.isDirty(0));
        Answers.due(1, "flush of one", desk::flush);
        Answers.due(3, "writes", desk::writes);
        Answers.due(0, "flush of none", () -> new LastUseDesk().flush());
    }

    private static void frames() {
        LastUseDesk desk = ran("c7;s0;c8;s4;l0;");
        Answers.due(2, "setFrames", () -> desk.setFrames(1));
        Answers.due(0, "resident", desk::resident);
        Answers.due(2, "writes", desk::writes);
        Answers.due(7, "discAt", () -> desk.discAt(0));
        Answers.due(8, "discAt", () -> desk.discAt(4));
        Answers.due(false, "isDirty", () -> desk.isDirty(0));
        Answers.due(7, "the accumulator stays", desk::accumulator);
        Desks.run(desk, "c1;s0;s4;l5;");
        Answers.due("[1]", "one frame", () -> Desks.pages(desk));
        Answers.due(3, "writes", desk::writes);
        Answers.due(1, "setFrames", () -> desk.setFrames(8));
        Desks.run(desk, "l0;l4;l8;l12;l16;l20;l24;l28;l32;");
        Answers.due("[1, 2, 3, 4, 5, 6, 7, 8]", "eight frames", () -> Desks.pages(desk));
        Answers.due(8, "resident", desk::resident);
        Answers.due(0, "setFrames to the same", () -> desk.setFrames(8));
        Answers.due(0, "resident", desk::resident);
        for (int frames : new int[] {0, -1, 9, Integer.MIN_VALUE, Integer.MAX_VALUE}) {
            Desks.run(desk, "c1;s0;");
            Answers.illegal("setFrames", () -> desk.setFrames(frames));
        }
        Answers.due(true, "a wrong number changes nothing", () -> desk.isDirty(0));
        Answers.due("[0]", "a wrong number changes nothing", () -> Desks.pages(desk));
    }

    private static void words() {
        LastUseDesk desk = ran("c999;s63;l62;");
        Answers.due(62, "accumulator", desk::accumulator);
        Answers.due(999, "wordAt", () -> desk.wordAt(63));
        Answers.due(63, "discAt", () -> desk.discAt(63));
        Answers.due(2, "wordAt is no access", desk::requests);
        LastUseDesk sums = ran("c1;s0;c2;a0;a0;s1;");
        Answers.due(4, "accumulator", sums::accumulator);
        Answers.due(4, "wordAt", () -> sums.wordAt(1));
        Desks.run(sums, "a5;");
        Answers.due(9, "the accumulator is kept", sums::accumulator);
    }

    private static void wrapping() {
        String doubling = "x9{s0;a0;}x9{s0;a0;}x9{s0;a0;}x4{s0;a0;}";
        Answers.due(Integer.MIN_VALUE, "accumulator", () -> ran("c1;" + doubling).accumulator());
        Answers.due(0, "accumulator", () -> ran("c2;" + doubling).accumulator());
        Answers.due(-104857600, "accumulator",
                () -> ran("c999;x9{s0;a0;}x9{s0;a0;}x4{s0;a0;}").accumulator());
        LastUseDesk desk = ran("c1;" + doubling + "s9;");
        Answers.due(Integer.MIN_VALUE, "wordAt", () -> desk.wordAt(9));
    }
}
