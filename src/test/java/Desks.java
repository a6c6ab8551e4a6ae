import java.util.ArrayList;
import java.util.List;

/** What several tests do with a desk. Each keeps a desk below its 512 calls. */
final class Desks {
    /** Accesses to nine pages, which is one more than there can be frames. */
    static final String NINE_PAGES = "l0;l4;l8;l12;l16;l20;l24;l28;l32;";

    private Desks() {
    }

    /** Puts a text on the tape, twenty bytes a call. */
    static void type(LastUseDesk desk, String text) {
        for (int from = 0; from < text.length(); from += 20) {
            int[] words = words(text.substring(from, Math.min(text.length(), from + 20)));
            desk.append(words[0], words[1], words[2], words[3], words[4]);
        }
    }

    /** Up to twenty characters as five words, with bytes that are 0 behind them. */
    static int[] words(String text) {
        int[] words = new int[5];
        for (int index = 0; index < text.length(); index++) {
            words[index / 4] |= text.charAt(index) << (24 - 8 * (index % 4));
        }
        return words;
    }

    static int run(LastUseDesk desk, String text) {
        type(desk, text);
        return desk.run();
    }

    /** Records requests by runs of 200 steps, which is fewer calls than one by one. */
    static void recordByRuns(LastUseDesk desk, int runs) {
        for (int run = 0; run < runs; run++) {
            run(desk, "x9{x9{x9{l0;}}}");
        }
    }

    /** The whole numbers from the least to the most. */
    static int[] numbers(int least, int most) {
        int[] numbers = new int[most - least + 1];
        for (int index = 0; index < numbers.length; index++) {
            numbers[index] = least + index;
        }
        return numbers;
    }

    /** A desk with all keys in the free map, and twenty in the bounded one; a value is ten keys. */
    static LastUseDesk fullMaps() {
        LastUseDesk desk = new LastUseDesk();
        desk.setBound(20);
        for (int key = 0; key < 100; key++) {
            desk.put(0, key, 10 * key);
        }
        for (int key = 0; key < 20; key++) {
            desk.put(1, key, 10 * key);
        }
        return desk;
    }

    /** A desk with so many requests of the key 0, and then so many of the key 50. */
    static LastUseDesk recorded(int runsOf200, int more) {
        LastUseDesk desk = new LastUseDesk();
        recordByRuns(desk, runsOf200);
        for (int request = 0; request < more; request++) {
            desk.request(50);
        }
        return desk;
    }

    /** A desk with so many bytes on its tape, that all are blanks. */
    static LastUseDesk blanks(int bytes) {
        LastUseDesk desk = new LastUseDesk();
        type(desk, " ".repeat(bytes));
        return desk;
    }

    /**
     * A desk with something in each of its parts, so that a call that changes one of them is seen.
     * The free map has the keys 6, 0, 99, 50, 7, the bounded one has put 6 out; each cursor gave the
     * eldest pair. The record has 0, 15, 1, 2, 0, 99, 0, 1; the pages 15 (dirty), 1, 2 are resident.
     */
    static LastUseDesk furnished() {
        LastUseDesk desk = new LastUseDesk();
        for (int map = 0; map < 2; map++) {
            desk.put(map, 6, 60);
            desk.put(map, 0, 0);
            desk.put(map, 99, 999);
            desk.put(map, 50, 500);
            desk.put(map, 7, 70);
            desk.beginCursor(map);
            desk.next(map);
        }
        desk.setFrames(3);
        run(desk, "c9;s0;c8;s63;l4;l8;");
        type(desk, "c1;z");
        Answers.illegal("run of c1;z", desk::run);
        for (int key : new int[] {0, 99, 0, 1}) {
            desk.request(key);
        }
        type(desk, "a0;l4;l5;l63;s16;");
        return desk;
    }

    static String keys(LastUseDesk desk, int map) {
        List<Integer> keys = new ArrayList<>();
        for (int place = 0; place < desk.size(map); place++) {
            keys.add(desk.keyAt(map, place));
        }
        return keys.toString();
    }

    static String values(LastUseDesk desk, int map) {
        List<Integer> values = new ArrayList<>();
        for (int place = 0; place < desk.size(map); place++) {
            values.add(desk.valueAt(map, place));
        }
        return values.toString();
    }

    static String cached(LastUseDesk desk, int cache) {
        List<Integer> keys = new ArrayList<>();
        for (int place = 0; place < desk.cached(cache); place++) {
            keys.add(desk.cachedAt(cache, place));
        }
        return keys.toString();
    }

    static String pages(LastUseDesk desk) {
        List<Integer> pages = new ArrayList<>();
        for (int place = 0; place < desk.resident(); place++) {
            pages.add(desk.residentAt(place));
        }
        return pages.toString();
    }

    /** All that a desk tells without being changed by it, but for the record. */
    static String state(LastUseDesk desk) {
        StringBuilder state = new StringBuilder();
        for (int map = 0; map < 2; map++) {
            state.append(" map ").append(keys(desk, map)).append(values(desk, map))
                    .append(desk.hasNext(map));
        }
        state.append(" out ").append(desk.putOut()).append(' ').append(desk.lastPutOut());
        for (int cache = 1; cache <= 8; cache++) {
            state.append(" cache ").append(cached(desk, cache)).append(desk.hits(cache));
        }
        state.append(" requests ").append(desk.requests()).append(' ').append(desk.meanDistance());
        state.append(" error ").append(desk.errorPosition());
        state.append(" machine ").append(pages(desk)).append(desk.accumulator())
                .append(' ').append(desk.faults()).append(' ').append(desk.writes()).append(' ');
        for (int address = 0; address < 64; address++) {
            state.append(desk.wordAt(address)).append('/').append(desk.discAt(address)).append(' ');
        }
        for (int page = 0; page < 16; page++) {
            state.append(desk.isDirty(page) ? 'd' : '-');
        }
        return state.toString();
    }

    /**
     * All that a desk tells, and then what its use alone brings to light: whether its cursors give
     * and take out, what is on the tape, the bound and the frames. About 330 calls.
     */
    static String whole(LastUseDesk desk) {
        StringBuilder whole = new StringBuilder(state(desk));
        for (int request = Math.max(0, desk.requests() - 10); request < desk.requests(); request++) {
            whole.append(" request ").append(desk.requestAt(request));
            whole.append(' ').append(desk.distanceOf(request));
        }
        for (int map : numbers(0, 1)) {
            whole.append(" cursor ").append(Answers.told(() -> desk.takeOut(map)));
            whole.append(' ').append(Answers.told(() -> desk.next(map)));
            whole.append(' ').append(Answers.told(() -> desk.next(map)));
        }
        whole.append(" recorded ").append(desk.clearCaches());
        whole.append(" tape ").append(Answers.told(desk::run)).append(desk.errorPosition());
        whole.append(' ').append(desk.accumulator()).append(pages(desk)).append(desk.wordAt(16));
        run(desk, NINE_PAGES);
        whole.append(" frames ").append(desk.resident());
        whole.append(" bound ").append(desk.setBound(4));
        return whole.toString();
    }
}
