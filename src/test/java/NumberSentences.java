import java.util.regex.Matcher;
import java.util.regex.Pattern;

/** Too small, too large: of each number, the last that is allowed and the first that is not. */
final class NumberSentences {
    interface Call {
        Object answer(LastUseDesk desk, int number);
    }

    private NumberSentences() {
    }

    static void all() {
        numbersOfMaps();
        otherNumbersOfMaps();
        numbersOfCaches();
        numbersOfTheMachine();
        places();
        numbersWithoutAnEnd();
    }

    private static void numbersOfMaps() {
        ends(2, "map: 0 or 1", 60, -1, (desk, map) -> desk.put(map, 6, 5));
        ends(2, "key: 0 to 99", 0, 999, (desk, key) -> desk.put(0, key, 5));
        ends(2, "value: 0 to 999", "500, then 0", "500, then 999",
                (desk, value) -> desk.put(0, 50, value) + ", then " + desk.get(0, 50));
        ends(3, "map: 0 or 1", 60, -1, (desk, map) -> desk.putIfAbsent(map, 6, 5));
        ends(3, "key: 0 to 99", 0, 999, (desk, key) -> desk.putIfAbsent(0, key, 5));
        ends(3, "value: 0 to 999", "-1, then 0", "-1, then 999",
                (desk, value) -> desk.putIfAbsent(0, 51, value) + ", then " + desk.get(0, 51));
        ends(4, "map: 0 or 1", 60, -1, (desk, map) -> desk.get(map, 6));
        ends(4, "key: 0 to 99", 0, 999, (desk, key) -> desk.get(0, key));
        ends(5, "map: 0 or 1", 60, 5, (desk, map) -> desk.getOrDefault(map, 6, 5));
        ends(5, "key: 0 to 99", 0, 999, (desk, key) -> desk.getOrDefault(0, key, 5));
        ends(6, "map: 0 or 1", 60, -1, (desk, map) -> desk.remove(map, 6));
        ends(6, "key: 0 to 99", 0, 999, (desk, key) -> desk.remove(0, key));
        ends(7, "map: 0 or 1", 5, 4, (desk, map) -> desk.clear(map));
        ends(8, "bound: 1 to 20", "4, then 1", "4, then 20",
                (desk, bound) -> desk.setBound(bound) + ", then " + desk.setBound(4));
        ends(9, "map: 0 or 1", true, false, (desk, map) -> desk.hasKey(map, 6));
        ends(9, "key: 0 to 99", true, true, (desk, key) -> desk.hasKey(0, key));
        ends(10, "map: 0 or 1", true, false, (desk, map) -> desk.hasValue(map, 60));
        ends(10, "value: 0 to 999", true, true, (desk, value) -> desk.hasValue(0, value));
    }

    private static void otherNumbersOfMaps() {
        ends(11, "map: 0 or 1", 5, 4, (desk, map) -> desk.size(map));
        ends(12, "map: 0 or 1", 6, 0, (desk, map) -> desk.keyAt(map, 0));
        ends(13, "map: 0 or 1", 60, 0, (desk, map) -> desk.valueAt(map, 0));
        ends(14, "map: 0 or 1", 4, 3, (desk, map) -> desk.placeOf(map, 7));
        ends(14, "key: 0 to 99", 1, 2, (desk, key) -> desk.placeOf(0, key));
        ends(15, "map: 0 or 1", 1629, 1569, (desk, map) -> desk.sum(map));
        ends(18, "map: 0 or 1", 5, 4, (desk, map) -> desk.beginCursor(map));
        ends(19, "map: 0 or 1", true, true, (desk, map) -> desk.hasNext(map));
        ends(20, "map: 0 or 1", 0, 99999, (desk, map) -> desk.next(map));
        ends(21, "map: 0 or 1", 4, 3, (desk, map) -> desk.takeOut(map));
    }

    private static void numbersOfCaches() {
        ends(22, "key: 0 to 99", 0b1111_1110, 0b1111_1100, (desk, key) -> desk.request(key));
        ends(24, "cache: 1 to 8", 0, 3, (desk, cache) -> desk.hits(cache));
        ends(25, "cache: 1 to 8", 1, 5, (desk, cache) -> desk.cached(cache));
        ends(26, "cache: 1 to 8", false, true, (desk, cache) -> desk.isCached(cache, 99));
        ends(26, "key: 0 to 99", true, true, (desk, key) -> desk.isCached(8, key));
        ends(27, "cache: 1 to 8", 1, 15, (desk, cache) -> desk.cachedAt(cache, 0));
        ends(31, "distance: 0 to 100", 0, 3, (desk, distance) -> desk.nearer(distance));
        ends(32, "hits: 0 or more", 1, -1, (desk, hits) -> desk.leastCache(hits));
        ends(47, "cache: 1 to 8", 0.0f, 0.375f, (desk, cache) -> desk.hitShare(cache));
    }

    private static void numbersOfTheMachine() {
        ends(37, "frames: 1 to 8", "1, then 1", "1, then 8", (desk, frames) -> {
            int written = desk.setFrames(frames);
            desk.clearTape();
            Desks.run(desk, Desks.NINE_PAGES);
            return written + ", then " + desk.resident();
        });
        ends(40, "address: 0 to 63", 9, 8, (desk, address) -> desk.wordAt(address));
        ends(41, "address: 0 to 63", 9, 63, (desk, address) -> desk.discAt(address));
        ends(44, "page: 0 to 15", false, true, (desk, page) -> desk.isDirty(page));
    }

    private static void places() {
        String ofMap = "place: 0 for the eldest pair, and so on";
        String ofCache = "place: 0 for the one whose last use is longest ago, and so on";
        String ofRecord = "request: number of a request";
        places(12, ofMap, 5, 6, 7, (desk, place) -> desk.keyAt(0, place));
        places(12, ofMap, 4, 0, 7, (desk, place) -> desk.keyAt(1, place));
        places(13, ofMap, 5, 60, 70, (desk, place) -> desk.valueAt(0, place));
        places(13, ofMap, 4, 0, 70, (desk, place) -> desk.valueAt(1, place));
        places(27, ofCache, 1, 1, 1, (desk, place) -> desk.cachedAt(1, place));
        places(27, ofCache, 5, 15, 1, (desk, place) -> desk.cachedAt(8, place));
        places(29, ofRecord, 8, 0, 1, (desk, request) -> desk.requestAt(request));
        places(30, ofRecord, 8, -1, 3, (desk, request) -> desk.distanceOf(request));
        places(43, ofCache, 3, 15, 2, (desk, place) -> desk.residentAt(place));
    }

    private static void numbersWithoutAnEnd() {
        Sentences.test(5, "other: any number", () -> {
            for (int other : new int[] {Integer.MIN_VALUE, -1, 0, 1000, Integer.MAX_VALUE}) {
                for (int map : Desks.numbers(0, 1)) {
                    LastUseDesk desk = Desks.furnished();
                    Answers.is(other, "other " + other, desk.getOrDefault(map, 51, other));
                    Answers.is(500, "other " + other, desk.getOrDefault(map, 50, other));
                }
            }
        });
        Sentences.test(33, "the four bytes of each parameter, the most significant byte first", () -> {
            LastUseDesk desk = new LastUseDesk();
            Answers.is(4, "append", desk.append(-1, 0, 0, 0, 0));
            Answers.is(5, "append", desk.append(Integer.MIN_VALUE, 0, 0, 0, 0));
            Answers.is(9, "append", desk.append(Integer.MAX_VALUE, 0, 0, 0, 0));
            Answers.is(9, "clearTape", desk.clearTape());
            // "c" and "5" and "0" and ";" are the four bytes of one number.
            Answers.is(4, "append", desk.append(0, 0, 0, 0, 0x6335303b));
            Answers.is(1, "run", desk.run());
            Answers.is(50, "accumulator", desk.accumulator());
        });
    }

    /** The two ends stand in the sentence; what is due there is told for a furnished desk. */
    private static void ends(int promise, String sentence, Object atLeast, Object atMost, Call call) {
        Matcher ends = Pattern.compile("\\w+: (\\d+) (?:to|or) (\\d+|more)").matcher(sentence);
        if (!ends.matches()) {
            throw new IllegalArgumentException(sentence);
        }
        int least = Integer.parseInt(ends.group(1));
        boolean endless = ends.group(2).equals("more");
        int most = endless ? Integer.MAX_VALUE : Integer.parseInt(ends.group(2));
        Sentences.test(promise, sentence, () -> {
            Answers.is(atLeast, "with " + least, call.answer(Desks.furnished(), least));
            Answers.is(atMost, "with " + most, call.answer(Desks.furnished(), most));
            for (int number : new int[] {least - 1, Integer.MIN_VALUE}) {
                Answers.illegal("with " + number, () -> call.answer(Desks.furnished(), number));
            }
            if (!endless) {
                for (int number : new int[] {most + 1, Integer.MAX_VALUE}) {
                    Answers.illegal("with " + number, () -> call.answer(Desks.furnished(), number));
                }
            }
        });
    }

    private static void places(int promise, String sentence, int count, int first, int last, Call call) {
        Sentences.test(promise, sentence, () -> {
            Answers.is(first, "with 0", call.answer(Desks.furnished(), 0));
            Answers.is(last, "with the last", call.answer(Desks.furnished(), count - 1));
            for (int place : new int[] {-1, count, Integer.MIN_VALUE, Integer.MAX_VALUE}) {
                Answers.noPlace("with " + place, () -> call.answer(Desks.furnished(), place));
            }
        });
    }
}
