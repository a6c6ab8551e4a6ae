import java.util.ArrayList;
import java.util.HashSet;
import java.util.Iterator;
import java.util.LinkedHashMap;
import java.util.List;
import java.util.Map;
import java.util.NoSuchElementException;
import java.util.Set;
import java.util.regex.Matcher;
import java.util.regex.Pattern;

/**
 * The document's words once more, with the Java library's own maps and as plainly as can be: what a
 * desk is held against in random runs. It shares nothing with the desk, so that both would have to
 * be wrong in the same way to agree.
 */
public final class Reference {
    private static final int NONE = -1;

    /** A map in the order of access that puts its eldest pair out. */
    private static final class Lru extends LinkedHashMap<Integer, Integer> {
        private static final long serialVersionUID = 1L;
        private final int bound;
        private int out = 0;
        private int outLast = NONE;

        Lru(int bound) {
            super(16, 0.75f, true);
            this.bound = bound;
        }

        @Override
        protected boolean removeEldestEntry(Map.Entry<Integer, Integer> eldest) {
            if (size() <= bound) {
                return false;
            }
            out++;
            outLast = eldest.getKey();
            return true;
        }

        int keyIn(int place) {
            if (place < 0 || place >= size()) {
                throw new IndexOutOfBoundsException();
            }
            return new ArrayList<>(keySet()).get(place);
        }

        /** The value without a use. */
        int peek(int key) {
            for (Map.Entry<Integer, Integer> pair : entrySet()) {
                if (pair.getKey() == key) {
                    return pair.getValue();
                }
            }
            return NONE;
        }
    }

    private final Lru[] maps = {new Lru(Integer.MAX_VALUE), new Lru(4)};
    private final List<Iterator<Map.Entry<Integer, Integer>>> cursors = new ArrayList<>();
    private int earlierOut = 0;
    private int earlierOutLast = NONE;
    private Lru[] caches;
    private int[] hits;
    private List<Integer> record;
    private final StringBuilder tape = new StringBuilder();
    private int errorPosition = NONE;
    private final int[] disc = new int[64];
    private final Map<Integer, int[]> frames = new LinkedHashMap<>(16, 0.75f, true);
    private final Set<Integer> dirty = new HashSet<>();
    private int frameCount = 2;
    private int accumulator = 0;
    private int faults = 0;
    private int writes = 0;
    private int steps;
    private int position;

    public Reference() {
        cursors.add(null);
        cursors.add(null);
        clearRecord();
        for (int address = 0; address < 64; address++) {
            disc[address] = address;
        }
    }

    private static void range(int number, int least, int most) {
        if (number < least || number > most) {
            throw new IllegalArgumentException();
        }
    }

    private static int orNone(Integer value) {
        return value == null ? NONE : value;
    }

    // ---- Maps

    public int put(int map, int key, int value) {
        range(map, 0, 1);
        range(key, 0, 99);
        range(value, 0, 999);
        cursors.set(map, null);
        return orNone(maps[map].put(key, value));
    }

    public int putIfAbsent(int map, int key, int value) {
        range(map, 0, 1);
        range(key, 0, 99);
        range(value, 0, 999);
        cursors.set(map, null);
        return orNone(maps[map].putIfAbsent(key, value));
    }

    public int get(int map, int key) {
        range(map, 0, 1);
        range(key, 0, 99);
        cursors.set(map, null);
        return orNone(maps[map].get(key));
    }

    public int getOrDefault(int map, int key, int other) {
        range(map, 0, 1);
        range(key, 0, 99);
        cursors.set(map, null);
        return maps[map].getOrDefault(key, other);
    }

    public int remove(int map, int key) {
        range(map, 0, 1);
        range(key, 0, 99);
        cursors.set(map, null);
        return orNone(maps[map].remove(key));
    }

    public int clear(int map) {
        range(map, 0, 1);
        cursors.set(map, null);
        int before = maps[map].size();
        maps[map].clear();
        return before;
    }

    public int setBound(int bound) {
        range(bound, 1, 20);
        cursors.set(1, null);
        int before = maps[1].bound;
        earlierOutLast = lastPutOut();
        earlierOut = putOut();
        maps[1] = new Lru(bound);
        return before;
    }

    public boolean hasKey(int map, int key) {
        range(map, 0, 1);
        range(key, 0, 99);
        return maps[map].containsKey(key);
    }

    public boolean hasValue(int map, int value) {
        range(map, 0, 1);
        range(value, 0, 999);
        return maps[map].containsValue(value);
    }

    public int size(int map) {
        range(map, 0, 1);
        return maps[map].size();
    }

    public int keyAt(int map, int place) {
        range(map, 0, 1);
        return maps[map].keyIn(place);
    }

    public int valueAt(int map, int place) {
        range(map, 0, 1);
        return maps[map].peek(maps[map].keyIn(place));
    }

    public int placeOf(int map, int key) {
        range(map, 0, 1);
        range(key, 0, 99);
        return new ArrayList<>(maps[map].keySet()).indexOf(key);
    }

    public int sum(int map) {
        range(map, 0, 1);
        return maps[map].values().stream().mapToInt(Integer::intValue).sum();
    }

    public int putOut() {
        return earlierOut + maps[1].out;
    }

    public int lastPutOut() {
        return maps[1].outLast == NONE ? earlierOutLast : maps[1].outLast;
    }

    // ---- Cursors

    public int beginCursor(int map) {
        range(map, 0, 1);
        cursors.set(map, maps[map].entrySet().iterator());
        return maps[map].size();
    }

    public boolean hasNext(int map) {
        range(map, 0, 1);
        return cursors.get(map) != null && cursors.get(map).hasNext();
    }

    public int next(int map) {
        range(map, 0, 1);
        if (cursors.get(map) == null) {
            throw new IllegalStateException();
        }
        if (!cursors.get(map).hasNext()) {
            throw new NoSuchElementException();
        }
        Map.Entry<Integer, Integer> pair = cursors.get(map).next();
        return 1000 * pair.getKey() + pair.getValue();
    }

    public int takeOut(int map) {
        range(map, 0, 1);
        if (cursors.get(map) == null) {
            throw new IllegalStateException();
        }
        cursors.get(map).remove();
        return maps[map].size();
    }

    // ---- Caches

    private void clearRecord() {
        caches = new Lru[9];
        for (int cache = 1; cache <= 8; cache++) {
            caches[cache] = new Lru(cache);
        }
        hits = new int[9];
        record = new ArrayList<>();
    }

    public int request(int key) {
        range(key, 0, 99);
        if (record.size() == 1000) {
            throw new IllegalStateException();
        }
        record.add(key);
        int mask = 0;
        for (int cache = 1; cache <= 8; cache++) {
            if (caches[cache].put(key, key) != null) {
                hits[cache]++;
                mask += 1 << (cache - 1);
            }
        }
        return mask;
    }

    public int clearCaches() {
        int before = record.size();
        clearRecord();
        return before;
    }

    public int hits(int cache) {
        range(cache, 1, 8);
        return hits[cache];
    }

    public int cached(int cache) {
        range(cache, 1, 8);
        return caches[cache].size();
    }

    public boolean isCached(int cache, int key) {
        range(cache, 1, 8);
        range(key, 0, 99);
        return caches[cache].containsKey(key);
    }

    public int cachedAt(int cache, int place) {
        range(cache, 1, 8);
        return caches[cache].keyIn(place);
    }

    public int requests() {
        return record.size();
    }

    public int requestAt(int request) {
        if (request < 0 || request >= record.size()) {
            throw new IndexOutOfBoundsException();
        }
        return record.get(request);
    }

    public int distanceOf(int request) {
        int key = requestAt(request);
        int earlier = record.subList(0, request).lastIndexOf(key);
        if (earlier < 0) {
            return NONE;
        }
        return new HashSet<>(record.subList(earlier + 1, request)).size();
    }

    private List<Integer> distances() {
        List<Integer> distances = new ArrayList<>();
        for (int request = 0; request < record.size(); request++) {
            if (distanceOf(request) != NONE) {
                distances.add(distanceOf(request));
            }
        }
        return distances;
    }

    public int nearer(int distance) {
        range(distance, 0, 100);
        return (int) distances().stream().filter(each -> each < distance).count();
    }

    public int leastCache(int atLeast) {
        range(atLeast, 0, Integer.MAX_VALUE);
        for (int cache = 1; cache <= 8; cache++) {
            if (hits[cache] >= atLeast) {
                return cache;
            }
        }
        return NONE;
    }

    // ---- The tape and the machine

    public int append(int a, int b, int c, int d, int e) {
        StringBuilder longer = new StringBuilder(tape);
        for (int word : new int[] {a, b, c, d, e}) {
            for (int at = 0; at < 4; at++) {
                char sign = (char) (word >> (8 * (3 - at)) & 0xff);
                if (sign != 0) {
                    longer.append(sign);
                }
            }
        }
        if (longer.length() > 300) {
            throw new IllegalStateException();
        }
        tape.setLength(0);
        tape.append(longer);
        return tape.length();
    }

    public int clearTape() {
        int before = tape.length();
        tape.setLength(0);
        return before;
    }

    public int run() {
        if (record.size() > 800) {
            throw new IllegalStateException();
        }
        List<Token> tokens = tokens(tape.toString());
        tape.setLength(0);
        errorPosition = NONE;
        position = 0;
        try {
            parse(tokens, 0);
        } catch (IllegalArgumentException error) {
            errorPosition = tokens.get(position).index;
            throw error;
        }
        steps = 0;
        position = 0;
        perform(tokens);
        return steps;
    }

    /** A token with its place; the text's end is one, too. */
    private static final class Token {
        private final String text;
        private final int index;

        Token(String text, int index) {
            this.text = text;
            this.index = index;
        }
    }

    private static List<Token> tokens(String text) {
        List<Token> tokens = new ArrayList<>();
        Matcher matcher = Pattern.compile("[0-9]+|[^0-9 \n]", Pattern.DOTALL).matcher(text);
        while (matcher.find()) {
            tokens.add(new Token(matcher.group(), matcher.start()));
        }
        tokens.add(new Token("end", text.length()));
        return tokens;
    }

    private void want(List<Token> tokens, String pattern) {
        if (!tokens.get(position).text.matches(pattern)) {
            throw new IllegalArgumentException();
        }
        position++;
    }

    private void number(List<Token> tokens, int least, int most) {
        if (!tokens.get(position).text.matches("[0-9]{1,3}")) {
            throw new IllegalArgumentException();
        }
        range(Integer.parseInt(tokens.get(position).text), least, most);
        position++;
    }

    private void parse(List<Token> tokens, int depth) {
        while (!tokens.get(position).text.equals(depth == 0 ? "end" : "}")) {
            String letter = tokens.get(position).text;
            want(tokens, "[lsacx]");
            if (letter.equals("x")) {
                number(tokens, 1, 9);
                want(tokens, depth < 4 ? "\\{" : "nothing");
                parse(tokens, depth + 1);
                want(tokens, "\\}");
            } else {
                number(tokens, 0, letter.equals("c") ? 999 : 63);
                want(tokens, ";");
            }
        }
    }

    private void perform(List<Token> tokens) {
        while (steps < 200 && "lsacx".contains(tokens.get(position).text)) {
            String letter = tokens.get(position).text;
            int number = Integer.parseInt(tokens.get(position + 1).text);
            position += 3;
            if (letter.equals("x")) {
                int start = position;
                for (int time = 0; time < number && steps < 200; time++) {
                    position = start;
                    perform(tokens);
                }
                position++;
            } else {
                step(letter, number);
                steps++;
            }
        }
    }

    private void step(String letter, int number) {
        if (letter.equals("c")) {
            accumulator = number;
            return;
        }
        int page = number / 4;
        request(page);
        if (frames.get(page) == null) {
            faults++;
            int[] words = new int[4];
            System.arraycopy(disc, 4 * page, words, 0, 4);
            frames.put(page, words);
            if (frames.size() > frameCount) {
                int eldest = frames.keySet().iterator().next();
                write(eldest);
                frames.remove(eldest);
            }
        }
        int[] words = frames.get(page);
        if (letter.equals("l")) {
            accumulator = words[number % 4];
        } else if (letter.equals("a")) {
            accumulator += words[number % 4];
        } else {
            words[number % 4] = accumulator;
            dirty.add(page);
        }
    }

    private int write(int page) {
        if (!dirty.remove(page)) {
            return 0;
        }
        for (Map.Entry<Integer, int[]> frame : frames.entrySet()) {
            if (frame.getKey() == page) {
                System.arraycopy(frame.getValue(), 0, disc, 4 * page, 4);
            }
        }
        writes++;
        return 1;
    }

    public int errorPosition() {
        return errorPosition;
    }

    public int setFrames(int count) {
        range(count, 1, 8);
        int written = flush();
        frames.clear();
        frameCount = count;
        return written;
    }

    public int flush() {
        int written = 0;
        for (int page = 0; page < 16; page++) {
            written += write(page);
        }
        return written;
    }

    public int accumulator() {
        return accumulator;
    }

    public int wordAt(int address) {
        range(address, 0, 63);
        for (Map.Entry<Integer, int[]> frame : frames.entrySet()) {
            if (frame.getKey() == address / 4) {
                return frame.getValue()[address % 4];
            }
        }
        return disc[address];
    }

    public int discAt(int address) {
        range(address, 0, 63);
        return disc[address];
    }

    public int resident() {
        return frames.size();
    }

    public int residentAt(int place) {
        if (place < 0 || place >= frames.size()) {
            throw new IndexOutOfBoundsException();
        }
        return new ArrayList<>(frames.keySet()).get(place);
    }

    public boolean isDirty(int page) {
        range(page, 0, 15);
        return dirty.contains(page);
    }

    public int faults() {
        return faults;
    }

    public int writes() {
        return writes;
    }

    // ---- Figures and second ways

    public float hitShare(int cache) {
        range(cache, 1, 8);
        return record.isEmpty() ? 0.0f : (float) hits[cache] / (float) record.size();
    }

    public double meanDistance() {
        List<Integer> distances = distances();
        int sum = distances.stream().mapToInt(Integer::intValue).sum();
        return distances.isEmpty() ? 0.0 : (double) sum / (double) distances.size();
    }

    public int errors() {
        return 0;
    }
}
