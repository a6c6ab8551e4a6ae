/** Empty and full: the disc, the frames and the accumulator, which wraps (promises 37 to 46). */
final class MachineSentences {
    private static final String ACCESS = "An access to an address is a request of its page";
    private static final String FAULT = "otherwise a fault: it is read from the disc into a frame, as"
            + " the one used last, and if more pages are resident then than there are frames, the one"
            + " whose last use is longest ago leaves its frame.";
    private static final String WRAPS = "a: the word at the address is added to the accumulator, which"
            + " wraps (an access).";
    /** Doubles the accumulator and adds the word 1 to it, 30 times: 90 steps. */
    private static final String TO_THE_GREATEST = "x3{x9{s0;a0;a1;}x1{s0;a0;a1;}}";

    private MachineSentences() {
    }

    static void all() {
        disc();
        frames();
        accesses();
        leaving();
        dirtyPages();
        stepsOfAProgram();
        wrapping();
        framesAndFlush();
        words();
        pages();
        counts();
    }

    private static LastUseDesk ran(String text) {
        LastUseDesk desk = new LastUseDesk();
        Desks.run(desk, text);
        return desk;
    }

    /** A desk with eight frames, with the pages 0 to 7 in them, each dirty with a word 7. */
    private static LastUseDesk fullFrames() {
        LastUseDesk desk = new LastUseDesk();
        desk.setFrames(8);
        Desks.run(desk, "c7;" + Desks.NINE_PAGES.replace("l32;", "").replace('l', 's'));
        return desk;
    }

    private static void disc() {
        Sentences.test(41, "The disc has 64 words, at the addresses 0 to 63; word k is k at first.", () -> {
            LastUseDesk desk = new LastUseDesk();
            for (int address = 0; address < 64; address++) {
                Answers.is(address, "discAt", desk.discAt(address));
                Answers.is(address, "wordAt", desk.wordAt(address));
            }
            for (int address : new int[] {-1, 64}) {
                Answers.illegal("discAt", () -> desk.discAt(address));
                Answers.illegal("wordAt", () -> desk.wordAt(address));
            }
        });
        Sentences.test(43, "The page of an address is the address divided by 4, rounded down.", () -> {
            for (int address = 0; address < 64; address++) {
                LastUseDesk desk = ran("l" + address + ";");
                Answers.is(address / 4, "residentAt of " + address, desk.residentAt(0));
                Answers.is(address / 4, "requestAt of " + address, desk.requestAt(0));
            }
        });
    }

    private static void frames() {
        Sentences.test(37, "at first 2", () -> {
            Answers.is("[0, 1]", "two pages", Desks.pages(ran("l0;l4;")));
            Answers.is("[1, 2]", "three pages", Desks.pages(ran("l0;l4;l8;")));
        });
        Sentences.test(37, "The machine has from 1 to 8 frames", () -> {
            for (int frames = 1; frames <= 8; frames++) {
                LastUseDesk desk = new LastUseDesk();
                desk.setFrames(frames);
                for (int page = 0; page < frames; page++) {
                    Desks.run(desk, "l" + 4 * page + ";");
                }
                Answers.is(frames, "resident in " + frames + " frames", desk.resident());
                Answers.is(0, "residentAt of the eldest", desk.residentAt(0));
                Desks.run(desk, "l63;");
                Answers.is(frames, "resident with one page more", desk.resident());
                Answers.is(frames == 1 ? 15 : 1, "residentAt of the eldest", desk.residentAt(0));
                Answers.is(15, "residentAt of the last", desk.residentAt(frames - 1));
            }
        });
        Sentences.test(42, "A page that is in a frame is resident.", () -> {
            LastUseDesk desk = ran("l0;l3;l1;");
            Answers.is(1, "resident", desk.resident());
            Answers.is(0, "residentAt", desk.residentAt(0));
            Answers.noPlace("residentAt", () -> desk.residentAt(1));
        });
    }

    private static void accesses() {
        Sentences.test(35, ACCESS, () -> {
            LastUseDesk desk = ran("c1;l0;s63;a32;x2{l4;}x9{}");
            Answers.is(5, "requests", desk.requests());
            int[] keys = {0, 15, 8, 1, 1};
            for (int request = 0; request < keys.length; request++) {
                Answers.is(keys[request], "requestAt", desk.requestAt(request));
            }
            Answers.is(1, "hits", desk.hits(1));
            Answers.is("[0, 15, 8, 1]", "cached", Desks.cached(desk, 8));
        });
        Sentences.test(22, ACCESS, () -> {
            LastUseDesk desk = ran("l0;l4;");
            desk.request(2);
            desk.request(0);
            Answers.is("[0, 1]", "pages behind a request, which is no access", Desks.pages(desk));
            Answers.is(2, "faults", desk.faults());
        });
        Sentences.test(43, "if the page is resident, this is a use of it", () -> {
            for (String access : new String[] {"l3;", "s3;", "a3;"}) {
                LastUseDesk desk = ran("l0;l4;" + access);
                Answers.is("[1, 0]", "pages behind " + access, Desks.pages(desk));
                Answers.is(2, "faults behind " + access, desk.faults());
            }
            Answers.is("[0, 1]", "pages behind c3;", Desks.pages(ran("l0;l4;c3;")));
        });
        Sentences.test(45, FAULT, () -> {
            for (String access : new String[] {"l63;", "s63;", "a63;"}) {
                LastUseDesk desk = ran(access);
                Answers.is(1, "faults of an empty machine", desk.faults());
                LastUseDesk full = fullFrames();
                Desks.run(full, access);
                Answers.is(9, "faults of a full machine", full.faults());
                Answers.is("[1, 2, 3, 4, 5, 6, 7, 15]", "pages", Desks.pages(full));
                Desks.run(full, "l0;");
                Answers.is(10, "faults of a page that left", full.faults());
            }
        });
    }

    private static void leaving() {
        Sentences.test(46, "A page that leaves is written to the disc, if it is dirty.", () -> {
            LastUseDesk full = fullFrames();
            Answers.is(0, "writes", full.writes());
            Desks.run(full, "l63;");
            Answers.is(1, "writes", full.writes());
            Answers.is(7, "discAt", full.discAt(0));
            Answers.is(1, "discAt", full.discAt(1));
            Answers.is(4, "discAt of a page that stays", full.discAt(4));
            Desks.run(full, Desks.NINE_PAGES);
            Answers.is(8, "writes", full.writes());
            Desks.run(full, Desks.NINE_PAGES + Desks.NINE_PAGES);
            Answers.is(8, "writes of clean pages", full.writes());
        });
        Sentences.test(46, "The machine has from 1 to 8 frames", () -> {
            LastUseDesk one = new LastUseDesk();
            one.setFrames(1);
            Desks.run(one, "c7;s0;s4;s0;s1;l8;");
            Answers.is(3, "writes with one frame", one.writes());
            Answers.is(7, "discAt", one.discAt(0));
            Answers.is(7, "discAt", one.discAt(1));
            Answers.is(7, "discAt", one.discAt(4));
        });
    }

    private static void dirtyPages() {
        Sentences.test(44, "A page is dirty if a word was stored in it since it was read or written"
                + " last.", () -> {
            LastUseDesk desk = ran("l0;a5;");
            Answers.is(false, "isDirty of a page read", desk.isDirty(0));
            Answers.is(false, "isDirty of a page read", desk.isDirty(1));
            Desks.run(desk, "l3;s3;");
            Answers.is(true, "isDirty with the same word", desk.isDirty(0));
            desk.flush();
            Answers.is(false, "isDirty of a page written", desk.isDirty(0));
            Desks.run(desk, "s0;");
            Answers.is(true, "isDirty of a page stored to again", desk.isDirty(0));
            Desks.run(desk, "l8;l12;l0;");
            Answers.is(false, "isDirty of a page read again", desk.isDirty(0));
        });
        Sentences.test(44, "Returns true if it is resident and dirty.", () -> {
            LastUseDesk empty = new LastUseDesk();
            LastUseDesk full = fullFrames();
            for (int page = 0; page < 16; page++) {
                Answers.is(false, "isDirty of an empty machine", empty.isDirty(page));
                Answers.is(page < 8, "isDirty of a full machine", full.isDirty(page));
            }
            Desks.run(full, "s60;");
            Answers.is(false, "isDirty of a page that left", full.isDirty(0));
            Answers.is(true, "isDirty of the last page", full.isDirty(15));
            full.setFrames(8);
            Answers.is(false, "isDirty behind setFrames", full.isDirty(15));
        });
    }

    private static void stepsOfAProgram() {
        Sentences.test(35, "l: the accumulator becomes the word at the address (an access).", () -> {
            Answers.is(0, "l0;", ran("c5;l0;").accumulator());
            Answers.is(63, "l63;", ran("c5;l63;").accumulator());
            Answers.is(7, "l of a stored word", ran("c7;s63;c1;l63;").accumulator());
            Answers.is(7, "l of a written word", ran("c7;s63;l0;l4;l63;").accumulator());
        });
        Sentences.test(35, "s: the word at the address becomes the accumulator (an access; the page is"
                + " dirty).", () -> {
            for (int address : new int[] {0, 3, 4, 63}) {
                LastUseDesk desk = ran("c999;s" + address + ";");
                Answers.is(999, "wordAt", desk.wordAt(address));
                Answers.is(address, "discAt", desk.discAt(address));
                Answers.is(true, "isDirty", desk.isDirty(address / 4));
                Answers.is(999, "accumulator", desk.accumulator());
            }
        });
        Sentences.test(35, WRAPS, () -> {
            Answers.is(5, "a0;", ran("c5;a0;").accumulator());
            Answers.is(1062, "a63;", ran("c999;a63;").accumulator());
        });
        Sentences.test(35, "c: the accumulator becomes the number.", () -> {
            Answers.is(0, "c0;", ran("l63;c0;").accumulator());
            Answers.is(999, "c999;", ran("l63;c999;").accumulator());
            Answers.is(0, "requests of c", ran("c0;").requests());
            Answers.is(0, "faults of c", ran("c0;").faults());
        });
    }

    private static void wrapping() {
        String greatest = "c1;" + TO_THE_GREATEST;
        Sentences.test(39, WRAPS, () -> {
            Answers.is(Integer.MAX_VALUE, "the greatest", ran(greatest).accumulator());
            Answers.is(Integer.MIN_VALUE, "one more", ran(greatest + "a1;").accumulator());
            Answers.is(Integer.MIN_VALUE + 62, "63 more", ran(greatest + "a63;").accumulator());
            Answers.is(-2, "twice the greatest", ran(greatest + "s0;a0;").accumulator());
            Answers.is(0, "2 more than that", ran(greatest + "s0;a0;a2;").accumulator());
            // -1 is twice the greatest and one more; it is kept as the word 5.
            String lessOne = greatest + "s0;a0;a1;s5;";
            Answers.is(-1, "-1", ran(lessOne).accumulator());
            Answers.is(0, "-1 and 1", ran(lessOne + "a1;").accumulator());
            Answers.is(Integer.MIN_VALUE, "the least", ran(lessOne + "l0;a1;").accumulator());
            Answers.is(Integer.MAX_VALUE, "one less", ran(lessOne + "l0;a1;a5;").accumulator());
            Answers.is(0, "twice the least", ran(greatest + "a1;s0;a0;").accumulator());
        });
        Sentences.test(40, "the word at the address is added to the accumulator, which wraps", () -> {
            LastUseDesk desk = ran(greatest + "s62;a1;s63;");
            Answers.is(Integer.MAX_VALUE, "wordAt of the greatest", desk.wordAt(62));
            Answers.is(Integer.MIN_VALUE, "wordAt of the least", desk.wordAt(63));
            desk.flush();
            Answers.is(Integer.MAX_VALUE, "discAt of the greatest", desk.discAt(62));
            Answers.is(Integer.MIN_VALUE, "discAt of the least", desk.discAt(63));
        });
        Sentences.test(39, "The accumulator is an int, 0 at first.",
                () -> Answers.is(0, "accumulator", new LastUseDesk().accumulator()));
        Sentences.test(39, "Returns the accumulator.", () -> {
            LastUseDesk desk = new LastUseDesk();
            Desks.run(desk, "");
            Answers.is(0, "accumulator behind no step", desk.accumulator());
            Desks.run(desk, "c999;");
            desk.clearCaches();
            desk.setFrames(1);
            Answers.is(999, "accumulator", desk.accumulator());
            Desks.run(desk, "a1;");
            Answers.is(1000, "accumulator, kept from run to run,", desk.accumulator());
        });
    }

    private static void framesAndFlush() {
        Sentences.test(37, "Returns the number of pages that were written by this.", () -> {
            Answers.is(0, "setFrames of an empty machine", new LastUseDesk().setFrames(8));
            Answers.is(0, "setFrames of clean pages", ran("l0;l4;").setFrames(1));
            Answers.is(1, "setFrames of one dirty page", ran("l0;s4;s5;").setFrames(8));
            LastUseDesk full = fullFrames();
            Answers.is(8, "setFrames of a full machine", full.setFrames(1));
            Answers.is(0, "setFrames again", full.setFrames(1));
        });
        Sentences.test(37, "All dirty pages are written ahead of this, and no page is resident then.", () -> {
            for (int frames = 1; frames <= 8; frames++) {
                LastUseDesk full = fullFrames();
                full.setFrames(frames);
                Answers.is(0, "resident", full.resident());
                Answers.is(8, "writes", full.writes());
                Answers.noPlace("residentAt", () -> full.residentAt(0));
                for (int page = 0; page < 8; page++) {
                    Answers.is(7, "discAt", full.discAt(4 * page));
                    Answers.is(7, "wordAt", full.wordAt(4 * page));
                    Answers.is(false, "isDirty", full.isDirty(page));
                }
                Desks.run(full, "l0;");
                Answers.is(9, "faults, also of a page that was resident,", full.faults());
            }
        });
        Sentences.test(38, "Returns how many were written.", () -> {
            Answers.is(0, "flush of an empty machine", new LastUseDesk().flush());
            Answers.is(0, "flush of clean pages", ran("l0;l4;").flush());
            LastUseDesk full = fullFrames();
            Answers.is(8, "flush of a full machine", full.flush());
            Answers.is(0, "flush again", full.flush());
            Desks.run(full, "s4;s5;");
            Answers.is(1, "flush of one dirty page", full.flush());
        });
        Sentences.test(38, "they stay resident, and are not dirty then. This is no use.", () -> {
            LastUseDesk full = fullFrames();
            Desks.run(full, "l0;");
            full.flush();
            Answers.is("[1, 2, 3, 4, 5, 6, 7, 0]", "pages", Desks.pages(full));
            for (int page = 0; page < 8; page++) {
                Answers.is(false, "isDirty", full.isDirty(page));
                Answers.is(7, "discAt", full.discAt(4 * page));
            }
            Desks.run(full, "l63;");
            Answers.is("[2, 3, 4, 5, 6, 7, 0, 15]", "pages", Desks.pages(full));
            Answers.is(8, "writes", full.writes());
        });
    }

    private static void words() {
        Sentences.test(40, "Returns the word.", () -> {
            LastUseDesk desk = ran("c999;s0;s63;");
            Answers.is(999, "wordAt of a page in a frame", desk.wordAt(0));
            Answers.is(999, "wordAt of a page in a frame", desk.wordAt(63));
            Answers.is(3, "wordAt of a word left alone", desk.wordAt(3));
            Answers.is(4, "wordAt of a page on the disc", desk.wordAt(4));
            Desks.run(desk, "l4;l8;");
            Answers.is(999, "wordAt of a page that left", desk.wordAt(0));
            Answers.is(999, "wordAt of a page that left", desk.wordAt(63));
        });
        Sentences.test(40, "This is no access.", () -> {
            LastUseDesk desk = ran("l0;l4;");
            desk.wordAt(0);
            desk.wordAt(63);
            Answers.is("[0, 1]", "pages", Desks.pages(desk));
            Answers.is(2, "requests", desk.requests());
            Answers.is(2, "faults", desk.faults());
        });
        Sentences.test(41, "Returns the word.", () -> {
            LastUseDesk desk = ran("c999;s0;s63;");
            Answers.is(0, "discAt of a dirty page", desk.discAt(0));
            Answers.is(63, "discAt of a dirty page", desk.discAt(63));
            Desks.run(desk, "l4;");
            Answers.is(999, "discAt of a page that left", desk.discAt(0));
            Answers.is(63, "discAt of a dirty page", desk.discAt(63));
            desk.flush();
            Answers.is(999, "discAt behind flush", desk.discAt(63));
        });
    }

    private static void pages() {
        Sentences.test(42, "Returns 0 to 8.", () -> {
            LastUseDesk desk = new LastUseDesk();
            desk.setFrames(8);
            Answers.is(0, "resident of an empty machine", desk.resident());
            for (int pages = 1; pages <= 9; pages++) {
                Desks.run(desk, "l" + 4 * pages + ";");
                Answers.is(Math.min(8, pages), "resident", desk.resident());
            }
            desk.flush();
            Answers.is(8, "resident behind flush", desk.resident());
            desk.setFrames(8);
            Answers.is(0, "resident behind setFrames", desk.resident());
        });
        Sentences.test(43, "Returns the page.", () -> {
            LastUseDesk full = fullFrames();
            Desks.run(full, "l60;");
            Answers.is(1, "residentAt of the eldest", full.residentAt(0));
            Answers.is(15, "residentAt of the last", full.residentAt(7));
            Answers.noPlace("residentAt behind it", () -> full.residentAt(8));
            Answers.noPlace("residentAt of an empty machine", () -> new LastUseDesk().residentAt(0));
        });
    }

    private static void counts() {
        Sentences.test(45, "Returns how many.", () -> {
            LastUseDesk desk = new LastUseDesk();
            Answers.is(0, "faults of a new desk", desk.faults());
            Desks.run(desk, "x9{x9{x9{l0;l4;}}}");
            Answers.is(2, "faults where all pages have frames", desk.faults());
            Desks.run(desk, "x9{x9{x9{l8;l0;l4;}}}");
            Answers.is(202, "faults where they have not", desk.faults());
            desk.setFrames(8);
            desk.clearCaches();
            Answers.is(202, "faults, kept,", desk.faults());
        });
        Sentences.test(46, "Returns how many.", () -> {
            LastUseDesk desk = new LastUseDesk();
            Answers.is(0, "writes of a new desk", desk.writes());
            desk.flush();
            desk.setFrames(1);
            Answers.is(0, "writes of no dirty page", desk.writes());
            Desks.run(desk, "x9{x9{x9{s0;s4;}}}");
            Answers.is(199, "writes of pages that leave", desk.writes());
            desk.flush();
            Answers.is(200, "writes behind flush", desk.writes());
            Desks.run(desk, "s0;");
            desk.setFrames(8);
            desk.clearCaches();
            Answers.is(201, "writes behind setFrames, kept,", desk.writes());
        });
    }
}
