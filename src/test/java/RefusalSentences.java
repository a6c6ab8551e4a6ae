import java.util.NoSuchElementException;
import java.util.function.Supplier;

/** A refused call: each exception of each call, which is thrown first, and that nothing changes. */
final class RefusalSentences {
    interface Deed {
        Object on(LastUseDesk desk);
    }

    private static final String SECTION_5 = "Throws IllegalArgumentException see section 5";
    private static final String NO_PLACE = "Throws IndexOutOfBoundsException if there is no such place";
    private static final String NO_REQUEST =
            "Throws IndexOutOfBoundsException if there is no such request";
    private static final String NO_CURSOR = "Throws IllegalStateException if there is no cursor";
    private static final String NO_NEXT = "Throws NoSuchElementException if it has no next pair";
    private static final String NOT_TO_TAKE = "Throws IllegalStateException if there is no cursor, it"
            + " gave no pair yet, or that pair was taken out by it";
    private static final String RECORD_FULL =
            "Throws IllegalStateException if 1000 requests are recorded";
    private static final String TAPE_FULL =
            "Throws IllegalStateException if the tape would have more than 300 bytes";
    private static final String NO_ROOM_FOR_RUN =
            "Throws IllegalStateException if more than 800 requests are recorded";
    private static final String ERROR_IN_TEXT =
            "Throws IllegalArgumentException if the text has an error; then no step is done";
    private static final String FIRST = "If several exceptions apply to a call, the one that is listed"
            + " first is thrown.";
    private static final String CHANGES_NOTHING = "A call that throws an exception changes nothing,"
            + " except that run() empties the tape and sets the error position if it does not throw an"
            + " IllegalStateException.";

    private RefusalSentences() {
    }

    static void all() {
        numbersOfMaps();
        numbersOfOtherMapCalls();
        numbersOfCachesAndMachine();
        kindsOfNumbers();
        places();
        cursors();
        recordAndTape();
        runs();
        whatARefusedRunChanges();
        firstOfSeveral();
    }

    private static void numbersOfMaps() {
        refused(2, SECTION_5, Desks::furnished, d -> d.put(2, 6, 5), d -> d.put(-1, 6, 5),
                d -> d.put(1, 100, 5), d -> d.put(0, -1, 5), d -> d.put(1, 5, 1000),
                d -> d.put(0, 6, -1), d -> d.put(1, 6, 1000), d -> d.put(2, 100, 1000));
        refused(3, SECTION_5, Desks::furnished, d -> d.putIfAbsent(2, 6, 5),
                d -> d.putIfAbsent(-1, 6, 5), d -> d.putIfAbsent(1, 100, 5),
                d -> d.putIfAbsent(0, -1, 5), d -> d.putIfAbsent(1, 5, 1000),
                d -> d.putIfAbsent(0, 6, -1), d -> d.putIfAbsent(2, 100, 1000));
        refused(4, SECTION_5, Desks::furnished, d -> d.get(2, 6), d -> d.get(-1, 6),
                d -> d.get(0, 100), d -> d.get(1, -1), d -> d.get(2, 100));
        refused(5, SECTION_5, Desks::furnished, d -> d.getOrDefault(2, 6, 5),
                d -> d.getOrDefault(-1, 6, 5), d -> d.getOrDefault(0, 100, 5),
                d -> d.getOrDefault(1, -1, 5), d -> d.getOrDefault(2, 100, 5));
        refused(6, SECTION_5, Desks::furnished, d -> d.remove(2, 6), d -> d.remove(-1, 6),
                d -> d.remove(0, 100), d -> d.remove(1, -1), d -> d.remove(2, 100));
        refused(7, SECTION_5, Desks::furnished, d -> d.clear(2), d -> d.clear(-1));
        refused(8, SECTION_5, Desks::furnished, d -> d.setBound(0), d -> d.setBound(21),
                d -> d.setBound(-1), d -> d.setBound(Integer.MAX_VALUE));
    }

    private static void numbersOfOtherMapCalls() {
        refused(9, SECTION_5, Desks::furnished, d -> d.hasKey(2, 6), d -> d.hasKey(-1, 6),
                d -> d.hasKey(0, 100), d -> d.hasKey(1, -1));
        refused(10, SECTION_5, Desks::furnished, d -> d.hasValue(2, 60), d -> d.hasValue(-1, 60),
                d -> d.hasValue(0, 1000), d -> d.hasValue(1, -1));
        refused(11, SECTION_5, Desks::furnished, d -> d.size(2), d -> d.size(-1));
        refused(12, SECTION_5, Desks::furnished, d -> d.keyAt(2, 0), d -> d.keyAt(-1, 0));
        refused(13, SECTION_5, Desks::furnished, d -> d.valueAt(2, 0), d -> d.valueAt(-1, 0));
        refused(14, SECTION_5, Desks::furnished, d -> d.placeOf(2, 6), d -> d.placeOf(-1, 6),
                d -> d.placeOf(0, 100), d -> d.placeOf(1, -1));
        refused(15, SECTION_5, Desks::furnished, d -> d.sum(2), d -> d.sum(-1));
        refused(18, SECTION_5, Desks::furnished, d -> d.beginCursor(2), d -> d.beginCursor(-1));
        refused(19, SECTION_5, Desks::furnished, d -> d.hasNext(2), d -> d.hasNext(-1));
        refused(20, SECTION_5, Desks::furnished, d -> d.next(2), d -> d.next(-1));
        refused(21, SECTION_5, Desks::furnished, d -> d.takeOut(2), d -> d.takeOut(-1));
    }

    private static void numbersOfCachesAndMachine() {
        refused(22, SECTION_5, Desks::furnished, d -> d.request(100), d -> d.request(-1));
        refused(24, SECTION_5, Desks::furnished, d -> d.hits(0), d -> d.hits(9));
        refused(25, SECTION_5, Desks::furnished, d -> d.cached(0), d -> d.cached(9));
        refused(26, SECTION_5, Desks::furnished, d -> d.isCached(0, 0), d -> d.isCached(9, 0),
                d -> d.isCached(1, 100), d -> d.isCached(8, -1));
        refused(27, SECTION_5, Desks::furnished, d -> d.cachedAt(0, 0), d -> d.cachedAt(9, 0));
        refused(31, SECTION_5, Desks::furnished, d -> d.nearer(-1), d -> d.nearer(101));
        refused(32, SECTION_5, Desks::furnished, d -> d.leastCache(-1),
                d -> d.leastCache(Integer.MIN_VALUE));
        refused(37, SECTION_5, Desks::furnished, d -> d.setFrames(0), d -> d.setFrames(9),
                d -> d.setFrames(-1), d -> d.setFrames(Integer.MAX_VALUE));
        refused(40, SECTION_5, Desks::furnished, d -> d.wordAt(-1), d -> d.wordAt(64));
        refused(41, SECTION_5, Desks::furnished, d -> d.discAt(-1), d -> d.discAt(64));
        refused(44, SECTION_5, Desks::furnished, d -> d.isDirty(-1), d -> d.isDirty(16));
        refused(47, SECTION_5, Desks::furnished, d -> d.hitShare(0), d -> d.hitShare(9));
        refused(47, SECTION_5, LastUseDesk::new, d -> d.hitShare(0), d -> d.hitShare(9));
    }

    /** The exceptions of numbers are the same ones on a desk that has nothing yet. */
    private static void kindsOfNumbers() {
        Sentences.test(1, "A map that is not 0 or 1, a cache that is not 1 to 8, a key, value, address"
                + " or page that is out of range, and other numbers out of range cause an"
                + " IllegalArgumentException; a place or a request that is not there, also one below 0,"
                + " causes an IndexOutOfBoundsException instead.", () -> {
            LastUseDesk desk = new LastUseDesk();
            Answers.illegal("a map", () -> desk.size(2));
            Answers.illegal("a cache", () -> desk.hits(9));
            Answers.illegal("a key", () -> desk.hasKey(0, 100));
            Answers.illegal("a value", () -> desk.hasValue(0, 1000));
            Answers.illegal("an address", () -> desk.wordAt(64));
            Answers.illegal("a page", () -> desk.isDirty(16));
            Answers.illegal("a bound", () -> desk.setBound(0));
            Answers.illegal("frames", () -> desk.setFrames(0));
            Answers.illegal("a distance", () -> desk.nearer(101));
            Answers.illegal("hits", () -> desk.leastCache(-1));
            for (int place : new int[] {-1, 0}) {
                Answers.noPlace("a place of a key", () -> desk.keyAt(0, place));
                Answers.noPlace("a place of a value", () -> desk.valueAt(1, place));
                Answers.noPlace("a place of a cache", () -> desk.cachedAt(8, place));
                Answers.noPlace("a place of a page", () -> desk.residentAt(place));
                Answers.noPlace("a request", () -> desk.requestAt(place));
                Answers.noPlace("a request's distance", () -> desk.distanceOf(place));
            }
        });
    }

    private static void places() {
        refused(12, NO_PLACE, Desks::furnished, d -> d.keyAt(0, -1), d -> d.keyAt(0, 5),
                d -> d.keyAt(1, -1), d -> d.keyAt(1, 4));
        refused(13, NO_PLACE, Desks::furnished, d -> d.valueAt(0, -1), d -> d.valueAt(0, 5),
                d -> d.valueAt(1, -1), d -> d.valueAt(1, 4));
        refused(27, NO_PLACE, Desks::furnished, d -> d.cachedAt(1, -1), d -> d.cachedAt(1, 1),
                d -> d.cachedAt(8, -1), d -> d.cachedAt(8, 5));
        refused(29, NO_REQUEST, Desks::furnished, d -> d.requestAt(-1), d -> d.requestAt(8));
        refused(30, NO_REQUEST, Desks::furnished, d -> d.distanceOf(-1), d -> d.distanceOf(8));
        refused(43, NO_PLACE, Desks::furnished, d -> d.residentAt(-1), d -> d.residentAt(3));
        refused(12, NO_PLACE, LastUseDesk::new, d -> d.keyAt(0, 0), d -> d.keyAt(1, 0));
        refused(13, NO_PLACE, LastUseDesk::new, d -> d.valueAt(0, 0), d -> d.valueAt(1, 0));
        refused(27, NO_PLACE, LastUseDesk::new, d -> d.cachedAt(1, 0), d -> d.cachedAt(8, 0));
        refused(29, NO_REQUEST, LastUseDesk::new, d -> d.requestAt(0));
        refused(30, NO_REQUEST, LastUseDesk::new, d -> d.distanceOf(0));
        refused(43, NO_PLACE, LastUseDesk::new, d -> d.residentAt(0));
    }

    /** A furnished desk whose cursors are begun anew, and then gave so many pairs. */
    private static LastUseDesk begun(int pairs) {
        LastUseDesk desk = Desks.furnished();
        for (int map : Desks.numbers(0, 1)) {
            desk.beginCursor(map);
            for (int pair = 0; pair < pairs; pair++) {
                desk.next(map);
            }
        }
        return desk;
    }

    private static LastUseDesk withoutCursors() {
        LastUseDesk desk = begun(1);
        desk.get(0, 51);
        desk.get(1, 51);
        return desk;
    }

    /** A furnished desk that has one pair in each map, at which its cursor is. */
    private static LastUseDesk atTheEnd(boolean takenOut) {
        LastUseDesk desk = Desks.furnished();
        for (int map : Desks.numbers(0, 1)) {
            desk.clear(map);
            desk.put(map, 5, 50);
            desk.beginCursor(map);
            desk.next(map);
            if (takenOut) {
                desk.takeOut(map);
            }
        }
        return desk;
    }

    private static void cursors() {
        refused(20, NO_CURSOR, RefusalSentences::withoutCursors, d -> d.next(0), d -> d.next(1));
        refused(20, NO_CURSOR, LastUseDesk::new, d -> d.next(0), d -> d.next(1));
        refused(20, NO_NEXT, () -> begun(4), d -> d.next(1));
        refused(20, NO_NEXT, () -> atTheEnd(false), d -> d.next(0), d -> d.next(1));
        refused(20, NO_NEXT, () -> atTheEnd(true), d -> d.next(0), d -> d.next(1));
        refused(20, NO_NEXT, () -> {
            LastUseDesk desk = new LastUseDesk();
            desk.beginCursor(0);
            desk.beginCursor(1);
            return desk;
        }, d -> d.next(0), d -> d.next(1));
        refused(21, NOT_TO_TAKE, RefusalSentences::withoutCursors, d -> d.takeOut(0),
                d -> d.takeOut(1));
        refused(21, NOT_TO_TAKE, LastUseDesk::new, d -> d.takeOut(0), d -> d.takeOut(1));
        refused(21, NOT_TO_TAKE, () -> begun(0), d -> d.takeOut(0), d -> d.takeOut(1));
        refused(21, NOT_TO_TAKE, () -> atTheEnd(true), d -> d.takeOut(0), d -> d.takeOut(1));
        refused(21, NOT_TO_TAKE, () -> {
            LastUseDesk desk = begun(2);
            desk.takeOut(0);
            desk.takeOut(1);
            return desk;
        }, d -> d.takeOut(0), d -> d.takeOut(1));
    }

    private static void recordAndTape() {
        refused(22, RECORD_FULL, () -> Desks.recorded(5, 0), d -> d.request(0), d -> d.request(99));
        refused(33, TAPE_FULL, () -> Desks.blanks(300), d -> d.append(1, 0, 0, 0, 0),
                d -> d.append(0, 1 << 8, 0, 0, 0), d -> d.append(0, 0, 1 << 16, 0, 0),
                d -> d.append(0, 0, 0, 1 << 24, 0), d -> d.append(0, 0, 0, 0, Integer.MIN_VALUE));
        refused(33, TAPE_FULL, () -> Desks.blanks(299), d -> d.append(1, 0, 0, 0, 1),
                d -> d.append(0, 0, 257, 0, 0), d -> d.append(-1, -1, -1, -1, -1));
        // The text's last three bytes have room, and would make it one that fits.
        refused(33, TAPE_FULL, () -> {
            LastUseDesk desk = Desks.blanks(280);
            Desks.type(desk, "l63;s0;c1");
            return desk;
        }, d -> d.append(0x3b202020, 0x20202020, 0x20202020, 0, 0),
                d -> d.append(0, 0x3b202020, 0x20202020, 0x20202020, 0x20202020));
    }

    /** A furnished desk with 801 requests, whose latest error position is 3, and a text. */
    private static LastUseDesk with801(String text) {
        LastUseDesk desk = Desks.recorded(4, 0);
        Desks.run(desk, "c9;");
        Desks.type(desk, "c1;z");
        Answers.illegal("run of c1;z", desk::run);
        desk.request(5);
        Desks.type(desk, text);
        return desk;
    }

    private static void runs() {
        refused(35, NO_ROOM_FOR_RUN, () -> with801("c8;s4;"), LastUseDesk::run);
        refused(35, NO_ROOM_FOR_RUN, () -> with801("c8;s64;"), LastUseDesk::run);
        refused(35, NO_ROOM_FOR_RUN, () -> with801(""), LastUseDesk::run);
        refused(35, NO_ROOM_FOR_RUN, () -> Desks.recorded(5, 0), LastUseDesk::run);
        Sentences.test(35, "if more than 800 requests are recorded", () -> {
            LastUseDesk desk = Desks.recorded(4, 0);
            Answers.is(800, "requests", desk.requests());
            Answers.is(0, "run with 800 requests", desk.run());
            Answers.is(1, "run with 800 requests", Desks.run(desk, "l0;"));
            Answers.is(801, "requests", desk.requests());
            Answers.tooEarly("run with 801 requests", desk::run);
            desk.clearCaches();
            Answers.is(0, "run behind clearCaches", desk.run());
        });
        Sentences.test(35, ERROR_IN_TEXT, () -> {
            for (String text : new String[] {"z", "c5;s0;l4;z", "c5;s0;x2{l4;", "c5;s0;l4;s64;",
                "x1{x1{x1{x1{c5;x1{}}}}}", "c", "}"}) {
                LastUseDesk desk = Desks.furnished();
                LastUseDesk twin = Desks.furnished();
                desk.clearTape();
                twin.clearTape();
                Desks.type(desk, text);
                Answers.illegal("run of " + text, desk::run);
                Answers.is(twin.accumulator(), "accumulator behind " + text, desk.accumulator());
                Answers.is(twin.requests(), "requests behind " + text, desk.requests());
                Answers.is(Desks.pages(twin), "pages behind " + text, Desks.pages(desk));
                Answers.is(twin.faults(), "faults behind " + text, desk.faults());
                Answers.is(twin.wordAt(0), "wordAt behind " + text, desk.wordAt(0));
            }
        });
    }

    private static void whatARefusedRunChanges() {
        Sentences.test(35, CHANGES_NOTHING, () -> {
            // The furnished desk's error position is 3, as is that of this text.
            LastUseDesk desk = Desks.furnished();
            LastUseDesk twin = Desks.furnished();
            desk.clearTape();
            twin.clearTape();
            Desks.type(desk, "l0;}s4;");
            Answers.illegal("run of l0;}s4;", desk::run);
            Answers.is(Desks.whole(twin), "all behind it", Desks.whole(desk));
        });
        Sentences.test(36, CHANGES_NOTHING, () -> {
            LastUseDesk desk = with801("c8;s64;");
            Answers.tooEarly("run with 801 requests", desk::run);
            Answers.is(3, "errorPosition", desk.errorPosition());
            desk.clearCaches();
            Answers.illegal("run of c8;s64;", desk::run);
            Answers.is(4, "errorPosition", desk.errorPosition());
            Answers.is(0, "clearTape", desk.clearTape());
        });
    }

    private static void firstOfSeveral() {
        Sentences.test(12, FIRST, () -> {
            Answers.illegal("keyAt", () -> new LastUseDesk().keyAt(2, 0));
            Answers.illegal("keyAt", () -> Desks.furnished().keyAt(-1, -1));
        });
        Sentences.test(13, FIRST, () -> {
            Answers.illegal("valueAt", () -> new LastUseDesk().valueAt(2, 0));
            Answers.illegal("valueAt", () -> Desks.furnished().valueAt(-1, -1));
        });
        Sentences.test(27, FIRST, () -> {
            Answers.illegal("cachedAt", () -> new LastUseDesk().cachedAt(9, 0));
            Answers.illegal("cachedAt", () -> Desks.furnished().cachedAt(0, -1));
        });
        Sentences.test(20, FIRST, () -> {
            LastUseDesk empty = new LastUseDesk();
            Answers.illegal("next of no map", () -> empty.next(2));
            Answers.tooEarly("next without a cursor and without pairs", () -> empty.next(0));
            empty.beginCursor(0);
            empty.beginCursor(1);
            Answers.thrown(NoSuchElementException.class, "next", () -> empty.next(0));
            Answers.illegal("next of no map", () -> empty.next(-1));
            empty.clear(0);
            Answers.tooEarly("next behind clear", () -> empty.next(0));
        });
        Sentences.test(21, FIRST, () -> {
            Answers.illegal("takeOut", () -> new LastUseDesk().takeOut(2));
            Answers.illegal("takeOut", () -> begun(0).takeOut(-1));
        });
        Sentences.test(22, FIRST, () -> {
            LastUseDesk full = Desks.recorded(5, 0);
            Answers.illegal("request of no key with a full record", () -> full.request(100));
            Answers.illegal("request of no key with a full record", () -> full.request(-1));
            Answers.tooEarly("request of a key with a full record", () -> full.request(0));
        });
        Sentences.test(35, FIRST, () -> {
            Answers.tooEarly("run of a text with an error, with 801 requests", with801("z")::run);
            LastUseDesk full = Desks.recorded(5, 0);
            Desks.type(full, "x0");
            Answers.tooEarly("run of a text with an error, with 1000 requests", full::run);
        });
    }

    /** The exception's name is a word of the sentence; a desk made alike tells what is due behind. */
    private static void refused(int promise, String sentence, Supplier<LastUseDesk> made, Deed... deeds) {
        String exception = sentence.split(" ")[1];
        Sentences.test(promise, sentence, () -> {
            String due = Desks.whole(made.get());
            for (int index = 0; index < deeds.length; index++) {
                Deed deed = deeds[index];
                LastUseDesk desk = made.get();
                String told = Answers.told(() -> deed.on(desk));
                Answers.check("throws " + exception, "the call number " + (index + 1), told);
                Answers.is(due, "all behind the call number " + (index + 1), Desks.whole(desk));
            }
        });
    }
}
