import java.util.ArrayList;
import java.util.List;

/** What several tests do with a desk. Each keeps a desk below its 512 calls. */
final class Desks {
    private Desks() {
    }

    /** Puts a text on the tape, twenty bytes a call. */
    static void type(LastUseDesk desk, String text) {
        for (int from = 0; from < text.length(); from += 20) {
            int[] words = words(text.substring(from, Math.min(text.length(), from + 20)));
            desk.append(words[0], words[1], words[2], words[3], words[4]);
        }
    }

    /** Up to twenty characters as five words, with bytes that are 0 behind them. */
    static int[] words(String text) {
        int[] words = new int[5];
        for (int index = 0; index < text.length(); index++) {
            words[index / 4] |= text.charAt(index) << (24 - 8 * (index % 4));
        }
        return words;
    }

    static int run(LastUseDesk desk, String text) {
        type(desk, text);
        return desk.run();
    }

    /** Records requests by runs of 200 steps, which is fewer calls than one by one. */
    static void recordByRuns(LastUseDesk desk, int runs) {
        for (int run = 0; run < runs; run++) {
            run(desk, "x9{x9{x9{l0;}}}");
        }
    }

    static String keys(LastUseDesk desk, int map) {
        List<Integer> keys = new ArrayList<>();
        for (int place = 0; place < desk.size(map); place++) {
            keys.add(desk.keyAt(map, place));
        }
        return keys.toString();
    }

    static String values(LastUseDesk desk, int map) {
        List<Integer> values = new ArrayList<>();
        for (int place = 0; place < desk.size(map); place++) {
            values.add(desk.valueAt(map, place));
        }
        return values.toString();
    }

    static String cached(LastUseDesk desk, int cache) {
        List<Integer> keys = new ArrayList<>();
        for (int place = 0; place < desk.cached(cache); place++) {
            keys.add(desk.cachedAt(cache, place));
        }
        return keys.toString();
    }

    static String pages(LastUseDesk desk) {
        List<Integer> pages = new ArrayList<>();
        for (int place = 0; place < desk.resident(); place++) {
            pages.add(desk.residentAt(place));
        }
        return pages.toString();
    }

    /** All that a desk tells without being changed by it, but for the record. */
    static String state(LastUseDesk desk) {
        StringBuilder state = new StringBuilder();
        for (int map = 0; map < 2; map++) {
            state.append(" map ").append(keys(desk, map)).append(values(desk, map))
                    .append(desk.hasNext(map));
        }
        state.append(" out ").append(desk.putOut()).append(' ').append(desk.lastPutOut());
        for (int cache = 1; cache <= 8; cache++) {
            state.append(" cache ").append(cached(desk, cache)).append(desk.hits(cache));
        }
        state.append(" requests ").append(desk.requests()).append(' ').append(desk.meanDistance());
        state.append(" error ").append(desk.errorPosition());
        state.append(" machine ").append(pages(desk)).append(desk.accumulator())
                .append(' ').append(desk.faults()).append(' ').append(desk.writes()).append(' ');
        for (int address = 0; address < 64; address++) {
            state.append(desk.wordAt(address)).append('/').append(desk.discAt(address)).append(' ');
        }
        for (int page = 0; page < 16; page++) {
            state.append(desk.isDirty(page) ? 'd' : '-');
        }
        return state.toString();
    }
}
