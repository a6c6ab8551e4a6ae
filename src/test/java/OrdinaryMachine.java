/** Ordinary inputs: what each promise of the machine says first (promises 37 to 46). */
final class OrdinaryMachine {
    private OrdinaryMachine() {
    }

    static void all() {
        Sentences.test(35, "as told in 3 (of the key with the page's number), and goes to the"
                + " machine, too", OrdinaryMachine::accessesAreRequests);
        Sentences.test(42, "a frame can hold a page.", OrdinaryMachine::aPageAFrame);
        Sentences.test(37, "Sets the number of frames.", OrdinaryMachine::setFrames);
        Sentences.test(38, "Writes all dirty pages to the disc; they stay resident, and are not"
                + " dirty then.", OrdinaryMachine::flush);
        Sentences.test(38, "This is no use.", OrdinaryMachine::flushIsNoUse);
        Sentences.test(39, "Returns the accumulator.", OrdinaryMachine::accumulator);
        Sentences.test(40, "Returns a word as a program would see it: that in the frame if its page"
                + " is resident, otherwise that of the disc.", OrdinaryMachine::wordAt);
        Sentences.test(41, "Returns a word of the disc.", OrdinaryMachine::discAt);
        Sentences.test(42, "Returns the number of pages that are resident.",
                OrdinaryMachine::resident);
        Sentences.test(43, "Returns a resident page by its place in the order.",
                OrdinaryMachine::residentAt);
        Sentences.test(44, "Tells whether a page is dirty.", OrdinaryMachine::isDirty);
        Sentences.test(45, "Counts the faults of the machine, since there is this desk.",
                OrdinaryMachine::faults);
        Sentences.test(46, "Counts the pages that were written to the disc, since there is this"
                + " desk.", OrdinaryMachine::writes);
    }

    private static LastUseDesk ran(String text) {
        LastUseDesk desk = new LastUseDesk();
        Desks.run(desk, text);
        return desk;
    }

    private static void accessesAreRequests() {
        LastUseDesk desk = ran("c5;l63;s0;a1;c6;");
        Answers.is(3, "requests", desk.requests());
        Answers.is(15, "requestAt", desk.requestAt(0));
        Answers.is(0, "requestAt", desk.requestAt(1));
        Answers.is(0, "requestAt", desk.requestAt(2));
        Answers.is(1, "hits", desk.hits(1));
        Answers.is("[15, 0]", "cached", Desks.cached(desk, 2));
        Answers.is(254, "request", desk.request(15));
        Answers.is("[15, 0]", "pages behind a request, which is no access,", Desks.pages(desk));
        desk.clearCaches();
        Desks.run(desk, "l63;");
        Answers.is(0, "hits", desk.hits(8));
        Answers.is(2, "faults: the page was still resident;", desk.faults());
    }

    /** Whatever its words are, a page is in one frame, and a frame has one page. */
    private static void aPageAFrame() {
        Answers.is("[0]", "pages of four words", Desks.pages(ran("l0;s1;a2;l3;")));
        Answers.is("[0, 1]", "pages of two words", Desks.pages(ran("l3;l4;")));
        Answers.is("[1, 2]", "pages of three words", Desks.pages(ran("l3;l4;l8;")));
    }

    private static void setFrames() {
        LastUseDesk desk = ran("c7;s0;c8;s4;l0;");
        Answers.is(2, "setFrames", desk.setFrames(1));
        Answers.is(0, "resident", desk.resident());
        Answers.is(7, "discAt", desk.discAt(0));
        Answers.is(8, "discAt", desk.discAt(4));
        Answers.is(false, "isDirty", desk.isDirty(0));
        Answers.is(7, "accumulator", desk.accumulator());
        Desks.run(desk, "c1;s0;s4;l5;");
        Answers.is("[1]", "pages in one frame", Desks.pages(desk));
        Answers.is(1, "setFrames", desk.setFrames(8));
        Desks.run(desk, Desks.NINE_PAGES);
        Answers.is("[1, 2, 3, 4, 5, 6, 7, 8]", "pages in eight frames", Desks.pages(desk));
        Answers.is(0, "setFrames to the same", desk.setFrames(8));
        Answers.is(0, "resident", desk.resident());
        Desks.run(desk, "c1;s0;");
        Answers.illegal("setFrames", () -> desk.setFrames(9));
        Answers.is(true, "isDirty behind a wrong number", desk.isDirty(0));
        Answers.is("[0]", "pages behind a wrong number", Desks.pages(desk));
    }

    private static void flush() {
        LastUseDesk desk = ran("c7;s0;c8;s4;");
        Answers.is(2, "flush", desk.flush());
        Answers.is(0, "flush again", desk.flush());
        Answers.is(7, "discAt", desk.discAt(0));
        Answers.is(8, "discAt", desk.discAt(4));
        Answers.is(false, "isDirty", desk.isDirty(0));
        Answers.is("[0, 1]", "pages", Desks.pages(desk));
        Desks.run(desk, "c9;s1;");
        Answers.is(2, "faults: they stay resident;", desk.faults());
        Answers.is(true, "isDirty", desk.isDirty(0));
        Answers.is(1, "flush of one", desk.flush());
    }

    private static void flushIsNoUse() {
        LastUseDesk desk = ran("c7;s4;s0;l4;");
        Answers.is(2, "flush", desk.flush());
        Answers.is("[0, 1]", "pages", Desks.pages(desk));
        Answers.is(3, "requests", desk.requests());
        Desks.run(desk, "l8;");
        Answers.is("[1, 2]", "pages", Desks.pages(desk));
    }

    private static void accumulator() {
        LastUseDesk desk = ran("c1;s0;c2;a0;a0;s1;");
        Answers.is(4, "accumulator", desk.accumulator());
        Desks.run(desk, "a5;");
        Answers.is(9, "accumulator, kept,", desk.accumulator());
        String doubling = "x9{s0;a0;}x9{s0;a0;}x9{s0;a0;}x4{s0;a0;}";
        Answers.is(Integer.MIN_VALUE, "accumulator", ran("c1;" + doubling).accumulator());
        Answers.is(0, "accumulator", ran("c2;" + doubling).accumulator());
    }

    private static void wordAt() {
        LastUseDesk desk = ran("c7;s0;c8;s3;");
        Answers.is(7, "wordAt", desk.wordAt(0));
        Answers.is(8, "wordAt", desk.wordAt(3));
        Answers.is(1, "wordAt of a word left alone", desk.wordAt(1));
        Answers.is(63, "wordAt of a page on the disc", desk.wordAt(63));
        Desks.run(desk, "l4;l8;");
        Answers.is(7, "wordAt of a page that left", desk.wordAt(0));
        Desks.run(desk, "l0;a3;");
        Answers.is(15, "accumulator: the words come back;", desk.accumulator());
    }

    private static void discAt() {
        LastUseDesk desk = ran("c7;s0;c8;s3;l4;");
        Answers.is(0, "discAt while the page is resident", desk.discAt(0));
        Desks.run(desk, "l8;");
        Answers.is(7, "discAt of a page that left", desk.discAt(0));
        Answers.is(1, "discAt of a page that left", desk.discAt(1));
        Answers.is(8, "discAt of a page that left", desk.discAt(3));
        Answers.is(4, "discAt of another page", desk.discAt(4));
    }

    private static void resident() {
        Answers.is(0, "resident behind a constant", ran("c5;").resident());
        Answers.is(1, "resident", ran("l3;").resident());
        Answers.is(2, "resident", ran("l3;l4;").resident());
        Answers.is(2, "resident", ran("l3;l4;l8;").resident());
    }

    private static void residentAt() {
        Answers.is("[15]", "the word 63", Desks.pages(ran("l63;")));
        Answers.is("[1, 0]", "l is a use", Desks.pages(ran("l0;l4;l1;")));
        Answers.is("[1, 0]", "s is a use", Desks.pages(ran("l0;l4;s1;")));
        Answers.is("[1, 0]", "a is a use", Desks.pages(ran("l0;l4;a1;")));
        Answers.is("[0, 2]", "the eldest leaves", Desks.pages(ran("l0;l4;l1;l8;")));
    }

    private static void isDirty() {
        LastUseDesk desk = ran("c7;l0;a5;");
        Answers.is(false, "isDirty of a page read", desk.isDirty(0));
        Answers.is(false, "isDirty of a page read", desk.isDirty(1));
        Desks.run(desk, "l9;s9;");
        Answers.is(true, "isDirty with the same word", desk.isDirty(2));
        Desks.run(desk, "c1;s62;");
        Answers.is(true, "isDirty", desk.isDirty(15));
        Answers.is(true, "isDirty", desk.isDirty(2));
        Desks.run(desk, "l0;");
        Answers.is(false, "isDirty of one that left", desk.isDirty(2));
        Desks.run(desk, "l9;");
        Answers.is(false, "isDirty of one read again", desk.isDirty(2));
    }

    private static void faults() {
        Answers.is(0, "faults of a constant", ran("c0;").faults());
        Answers.is(1, "faults of one page", ran("l0;s1;a2;l3;").faults());
        Answers.is(3, "faults", ran("l0;l4;l8;l4;").faults());
        Answers.is(4, "faults", ran("l0;l4;l8;l0;").faults());
        LastUseDesk desk = ran("l0;l4;l8;");
        desk.setFrames(2);
        desk.clearCaches();
        Answers.is(3, "faults, kept,", desk.faults());
        Desks.run(desk, "l8;");
        Answers.is(4, "faults behind setFrames", desk.faults());
    }

    private static void writes() {
        LastUseDesk desk = ran("c7;s0;c8;s4;");
        Answers.is(0, "writes", desk.writes());
        Desks.run(desk, "l8;");
        Answers.is(1, "writes of a page that left", desk.writes());
        Desks.run(desk, "l12;l16;l20;");
        Answers.is(2, "writes: clean pages are not written;", desk.writes());
        Desks.run(desk, "s0;");
        desk.flush();
        Answers.is(3, "writes behind flush", desk.writes());
        Desks.run(desk, "s0;");
        desk.setFrames(8);
        desk.clearCaches();
        Answers.is(4, "writes behind setFrames, kept,", desk.writes());
    }
}
