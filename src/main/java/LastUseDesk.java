import java.util.NoSuchElementException;

/**
 * Caches by last use: a free map and a bounded one, eight caches of all sizes that are fed alike,
 * and a machine whose pages of memory lie in such a cache.
 */
public final class LastUseDesk {
    /** The absence of a number. */
    public static final int NONE = -1;

    private static final int KEYS = 100;
    private static final int VALUES = 1000;
    private static final int FIRST_BOUND = 4;
    private static final int MOST_BOUND = 20;
    private static final int CACHES = 8;
    private static final int MOST_REQUESTS = 1000;
    /** A run adds at most MOST_STEPS requests, so that the record has room for all of them. */
    private static final int MOST_REQUESTS_AHEAD_OF_RUN = 800;
    private static final int MOST_STEPS = 200;
    private static final int MOST_BYTES = 300;
    private static final int MOST_OPEN = 4;
    private static final int MOST_NUMBER = 999;
    private static final int MOST_TIMES = 9;
    private static final int MOST_DIGITS = 3;
    private static final int WORDS = 64;
    private static final int PAGE_WORDS = 4;
    private static final int PAGES = 16;
    private static final int FIRST_FRAMES = 2;
    private static final int MOST_FRAMES = 8;

    private final UseMap free = new UseMap(KEYS);
    private final UseMap bounded = new UseMap(FIRST_BOUND);
    private final Cache[] caches = new Cache[CACHES];
    private final RequestLog log = new RequestLog();
    private final ProgramReader reader = new ProgramReader();
    private final Machine machine = new Machine();
    private int latestError = NONE;

    public LastUseDesk() {
        for (int index = 0; index < CACHES; index++) {
            caches[index] = new Cache(index + 1);
        }
    }

    // ---- Maps

    public int put(int map, int key, int value) throws IllegalArgumentException {
        UseMap chosen = chosenMap(map);
        requireKey(key);
        requireValue(value);
        return chosen.store(key, value);
    }

    public int putIfAbsent(int map, int key, int value) throws IllegalArgumentException {
        UseMap chosen = chosenMap(map);
        requireKey(key);
        requireValue(value);
        return chosen.storeIfMissing(key, value);
    }

    public int get(int map, int key) throws IllegalArgumentException {
        UseMap chosen = chosenMap(map);
        requireKey(key);
        return chosen.fetch(key);
    }

    public int getOrDefault(int map, int key, int other) throws IllegalArgumentException {
        UseMap chosen = chosenMap(map);
        requireKey(key);
        int value = chosen.fetch(key);
        return value == NONE ? other : value;
    }

    public int remove(int map, int key) throws IllegalArgumentException {
        UseMap chosen = chosenMap(map);
        requireKey(key);
        return chosen.drop(key);
    }

    public int clear(int map) throws IllegalArgumentException {
        return chosenMap(map).dropAll();
    }

    public int setBound(int bound) throws IllegalArgumentException {
        requireRange(bound, 1, MOST_BOUND);
        return bounded.changeBound(bound);
    }

    public boolean hasKey(int map, int key) throws IllegalArgumentException {
        UseMap chosen = chosenMap(map);
        requireKey(key);
        return chosen.lookUp(key) != NONE;
    }

    public boolean hasValue(int map, int value) throws IllegalArgumentException {
        UseMap chosen = chosenMap(map);
        requireValue(value);
        return chosen.holdsValue(value);
    }

    public int size(int map) throws IllegalArgumentException {
        return chosenMap(map).keys().length();
    }

    public int keyAt(int map, int place) throws IllegalArgumentException, IndexOutOfBoundsException {
        UseOrder keys = chosenMap(map).keys();
        requirePlace(place, keys.length());
        return keys.keyIn(place);
    }

    public int valueAt(int map, int place) throws IllegalArgumentException, IndexOutOfBoundsException {
        UseMap chosen = chosenMap(map);
        requirePlace(place, chosen.keys().length());
        return chosen.valueIn(place);
    }

    public int placeOf(int map, int key) throws IllegalArgumentException {
        UseMap chosen = chosenMap(map);
        requireKey(key);
        return chosen.keys().find(key);
    }

    public int sum(int map) throws IllegalArgumentException {
        return chosenMap(map).total();
    }

    public int putOut() {
        return bounded.outCount();
    }

    public int lastPutOut() {
        return bounded.outLast();
    }

    // ---- Cursors

    public int beginCursor(int map) throws IllegalArgumentException {
        UseMap chosen = chosenMap(map);
        chosen.cursor().begin();
        return chosen.keys().length();
    }

    public boolean hasNext(int map) throws IllegalArgumentException {
        UseMap chosen = chosenMap(map);
        return chosen.cursor().isAheadOf(chosen.keys().length());
    }

    public int next(int map)
            throws IllegalArgumentException, IllegalStateException, NoSuchElementException {
        UseMap chosen = chosenMap(map);
        if (!chosen.cursor().isBegun()) {
            throw new IllegalStateException("the map has no cursor");
        }
        if (!chosen.cursor().isAheadOf(chosen.keys().length())) {
            throw new NoSuchElementException("the cursor has no next pair");
        }
        int place = chosen.cursor().advance();
        return VALUES * chosen.keys().keyIn(place) + chosen.valueIn(place);
    }

    public int takeOut(int map) throws IllegalArgumentException, IllegalStateException {
        UseMap chosen = chosenMap(map);
        if (!chosen.cursor().canTake()) {
            throw new IllegalStateException("the cursor has no pair to take out");
        }
        chosen.keys().dropIn(chosen.cursor().stepBack());
        return chosen.keys().length();
    }

    // ---- Caches

    public int request(int key) throws IllegalArgumentException, IllegalStateException {
        requireKey(key);
        if (log.length() >= MOST_REQUESTS) {
            throw new IllegalStateException("the record is full");
        }
        return askCaches(key);
    }

    public int clearCaches() {
        int recorded = log.length();
        for (int index = 0; index < CACHES; index++) {
            caches[index].restart();
        }
        log.restart();
        return recorded;
    }

    public int hits(int cache) throws IllegalArgumentException {
        return chosenCache(cache).hitCount();
    }

    public int cached(int cache) throws IllegalArgumentException {
        return chosenCache(cache).keys().length();
    }

    public boolean isCached(int cache, int key) throws IllegalArgumentException {
        Cache chosen = chosenCache(cache);
        requireKey(key);
        return chosen.keys().holds(key);
    }

    public int cachedAt(int cache, int place)
            throws IllegalArgumentException, IndexOutOfBoundsException {
        UseOrder keys = chosenCache(cache).keys();
        requirePlace(place, keys.length());
        return keys.keyIn(place);
    }

    public int requests() {
        return log.length();
    }

    public int requestAt(int request) throws IndexOutOfBoundsException {
        requirePlace(request, log.length());
        return log.keyIn(request);
    }

    public int distanceOf(int request) throws IndexOutOfBoundsException {
        requirePlace(request, log.length());
        return log.distanceIn(request);
    }

    public int nearer(int distance) throws IllegalArgumentException {
        requireRange(distance, 0, KEYS);
        return log.countBelow(distance);
    }

    public int leastCache(int hits) throws IllegalArgumentException {
        if (hits < 0) {
            throw new IllegalArgumentException("a number is out of range");
        }
        for (int index = 0; index < CACHES; index++) {
            if (caches[index].hitCount() >= hits) {
                return index + 1;
            }
        }
        return NONE;
    }

    // ---- The tape and the machine

    public int append(int a, int b, int c, int d, int e) throws IllegalStateException {
        Tape tape = reader.tape();
        int more = Tape.bytesOf(a) + Tape.bytesOf(b) + Tape.bytesOf(c)
                + Tape.bytesOf(d) + Tape.bytesOf(e);
        if (tape.length() + more > MOST_BYTES) {
            throw new IllegalStateException("the tape has no room");
        }
        tape.addBytes(a);
        tape.addBytes(b);
        tape.addBytes(c);
        tape.addBytes(d);
        tape.addBytes(e);
        return tape.length();
    }

    public int clearTape() {
        return reader.tape().empty();
    }

    public int run() throws IllegalStateException, IllegalArgumentException {
        if (log.length() > MOST_REQUESTS_AHEAD_OF_RUN) {
            throw new IllegalStateException("the record has no room for a run");
        }
        latestError = reader.read();
        reader.tape().empty();
        if (latestError != NONE) {
            throw new IllegalArgumentException("the text has an error");
        }
        Program program = reader.program();
        for (int step = 0; step < program.length(); step++) {
            performStep(program.letterIn(step), program.numberIn(step));
        }
        return program.length();
    }

    public int errorPosition() {
        return latestError;
    }

    public int setFrames(int frames) throws IllegalArgumentException {
        requireRange(frames, 1, MOST_FRAMES);
        return machine.changeFrames(frames);
    }

    public int flush() {
        return machine.writeAll();
    }

    public int accumulator() {
        return machine.accumulated();
    }

    public int wordAt(int address) throws IllegalArgumentException {
        requireRange(address, 0, WORDS - 1);
        return machine.wordIn(address);
    }

    public int discAt(int address) throws IllegalArgumentException {
        requireRange(address, 0, WORDS - 1);
        return machine.discIn(address);
    }

    public int resident() {
        return machine.pages().length();
    }

    public int residentAt(int place) throws IndexOutOfBoundsException {
        requirePlace(place, machine.pages().length());
        return machine.pages().keyIn(place);
    }

    public boolean isDirty(int page) throws IllegalArgumentException {
        requireRange(page, 0, PAGES - 1);
        return machine.hasChanged(page);
    }

    public int faults() {
        return machine.faultCount();
    }

    public int writes() {
        return machine.writeCount();
    }

    // ---- Figures and second ways

    public float hitShare(int cache) throws IllegalArgumentException {
        Cache chosen = chosenCache(cache);
        int recorded = log.length();
        if (recorded == 0) {
            return 0.0f;
        }
        return (float) chosen.hitCount() / (float) recorded;
    }

    public double meanDistance() {
        int counted = log.countBelow(KEYS);
        if (counted == 0) {
            return 0.0;
        }
        return (double) log.distanceTotal() / (double) counted;
    }

    public int errors() {
        int wrong = 0;
        for (int index = 0; index < CACHES; index++) {
            if (hitsContradictLog(index) || hasKeyThatNextLacks(index)) {
                wrong++;
            }
        }
        return wrong;
    }

    // ---- What the calls above share

    private static void requireRange(int number, int least, int most) {
        if (number < least || number > most) {
            throw new IllegalArgumentException("a number is out of range");
        }
    }

    private static void requireKey(int key) {
        requireRange(key, 0, KEYS - 1);
    }

    private static void requireValue(int value) {
        requireRange(value, 0, VALUES - 1);
    }

    private static void requirePlace(int place, int length) {
        if (place < 0 || place >= length) {
            throw new IndexOutOfBoundsException("there is no such place");
        }
    }

    private UseMap chosenMap(int map) {
        requireRange(map, 0, 1);
        return map == 0 ? free : bounded;
    }

    private Cache chosenCache(int cache) {
        requireRange(cache, 1, CACHES);
        return caches[cache - 1];
    }

    private int askCaches(int key) {
        int hitMask = 0;
        for (int index = 0; index < CACHES; index++) {
            if (caches[index].ask(key)) {
                hitMask |= 1 << index;
            }
        }
        log.note(key);
        return hitMask;
    }

    private void performStep(int letter, int number) {
        if (letter != 'c') {
            askCaches(number / PAGE_WORDS);
        }
        machine.perform(letter, number);
    }

    private boolean hitsContradictLog(int index) {
        return caches[index].hitCount() != log.countBelow(index + 1);
    }

    private boolean hasKeyThatNextLacks(int index) {
        if (index + 1 >= CACHES) {
            return false;
        }
        UseOrder keys = caches[index].keys();
        UseOrder nextKeys = caches[index + 1].keys();
        for (int place = 0; place < keys.length(); place++) {
            if (!nextKeys.holds(keys.keyIn(place))) {
                return true;
            }
        }
        return false;
    }

    /** Keys from 0 to 99, each at most once, from the one used longest ago to the one used last. */
    private static final class UseOrder {
        private final int[] keys = new int[KEYS];
        private int count = 0;

        int length() {
            return count;
        }

        int keyIn(int place) {
            return place >= 0 && place < count ? keys[place] : NONE;
        }

        int find(int key) {
            for (int place = 0; place < count; place++) {
                if (keys[place] == key) {
                    return place;
                }
            }
            return NONE;
        }

        boolean holds(int key) {
            return find(key) != NONE;
        }

        /** Makes a key the one used last, and tells whether it was there before. */
        boolean use(int key) {
            int place = find(key);
            dropIn(place);
            if (count < KEYS) {
                keys[count] = key;
                count++;
            }
            return place != NONE;
        }

        void dropIn(int place) {
            if (place < 0 || place >= count) {
                return;
            }
            count--;
            for (int moved = place; moved < count; moved++) {
                keys[moved] = keys[moved + 1];
            }
        }

        /** Drops the eldest key if there are more keys than the bound; NONE if there are not. */
        int dropBeyond(int bound) {
            if (count <= bound) {
                return NONE;
            }
            int eldest = keyIn(0);
            dropIn(0);
            return eldest;
        }

        void dropAll() {
            count = 0;
        }
    }

    /** Where a cursor stands in the order of its map, and whether what it gave can be taken out. */
    private static final class Cursor {
        private boolean begun = false;
        private int place = 0;
        private boolean gave = false;

        void begin() {
            begun = true;
            place = 0;
            gave = false;
        }

        void end() {
            begun = false;
        }

        boolean isBegun() {
            return begun;
        }

        boolean isAheadOf(int length) {
            return begun && place < length;
        }

        boolean canTake() {
            return begun && gave;
        }

        /** Returns the place that it passes. */
        int advance() {
            int passed = place;
            place++;
            gave = true;
            return passed;
        }

        /** Returns the place of the pair to take out; the pairs behind it will move up by one. */
        int stepBack() {
            place--;
            gave = false;
            return place;
        }
    }

    /** A map in the order of last use; the free map has a bound that its keys can't pass. */
    private static final class UseMap {
        private final UseOrder order = new UseOrder();
        private final Cursor cursor = new Cursor();
        private final int[] values = new int[KEYS];
        private int bound;
        private int outCount = 0;
        private int outLast = NONE;

        UseMap(int bound) {
            this.bound = bound;
        }

        UseOrder keys() {
            return order;
        }

        Cursor cursor() {
            return cursor;
        }

        int outCount() {
            return outCount;
        }

        int outLast() {
            return outLast;
        }

        /** The value of a key that is there, NONE of another one. This is no use. */
        int lookUp(int key) {
            return key >= 0 && key < KEYS && order.holds(key) ? values[key] : NONE;
        }

        int valueIn(int place) {
            return lookUp(order.keyIn(place));
        }

        int store(int key, int value) {
            int before = lookUp(key);
            cursor.end();
            if (key >= 0 && key < KEYS) {
                order.use(key);
                values[key] = value;
                recordOut(order.dropBeyond(bound));
            }
            return before;
        }

        int storeIfMissing(int key, int value) {
            // To store the old value again is the same use of the pair, and leaves it as it is.
            int before = lookUp(key);
            return store(key, before == NONE ? value : before);
        }

        int fetch(int key) {
            int value = lookUp(key);
            cursor.end();
            if (value != NONE) {
                order.use(key);
            }
            return value;
        }

        int drop(int key) {
            int before = lookUp(key);
            cursor.end();
            order.dropIn(order.find(key));
            return before;
        }

        int dropAll() {
            int before = order.length();
            cursor.end();
            order.dropAll();
            return before;
        }

        int changeBound(int newBound) {
            int before = bound;
            dropAll();
            bound = newBound;
            return before;
        }

        boolean holdsValue(int value) {
            for (int place = 0; place < order.length(); place++) {
                if (valueIn(place) == value) {
                    return true;
                }
            }
            return false;
        }

        int total() {
            int total = 0;
            for (int place = 0; place < order.length(); place++) {
                total += valueIn(place);
            }
            return total;
        }

        private void recordOut(int key) {
            if (key != NONE) {
                outCount++;
                outLast = key;
            }
        }
    }

    /** One of the eight caches: at most as many keys as its bound, and its hits. */
    private static final class Cache {
        private final UseOrder order = new UseOrder();
        private final int bound;
        private int hitCount = 0;

        Cache(int bound) {
            this.bound = bound;
        }

        UseOrder keys() {
            return order;
        }

        int hitCount() {
            return hitCount;
        }

        boolean ask(int key) {
            boolean hit = order.use(key);
            if (hit) {
                hitCount++;
            }
            order.dropBeyond(bound);
            return hit;
        }

        void restart() {
            order.dropAll();
            hitCount = 0;
        }
    }

    /** The record of requests. */
    private static final class RequestLog {
        private final int[] keys = new int[MOST_REQUESTS];
        private final int[] distances = new int[MOST_REQUESTS];
        private final UseOrder latest = new UseOrder();
        private int count = 0;

        int length() {
            return count;
        }

        int keyIn(int request) {
            return request >= 0 && request < count ? keys[request] : NONE;
        }

        int distanceIn(int request) {
            return request >= 0 && request < count ? distances[request] : NONE;
        }

        void note(int key) {
            if (count >= MOST_REQUESTS) {
                return;
            }
            keys[count] = key;
            distances[count] = distanceTo(key);
            count++;
            latest.use(key);
        }

        int countBelow(int distance) {
            int counted = 0;
            for (int request = 0; request < count; request++) {
                if (distances[request] != NONE && distances[request] < distance) {
                    counted++;
                }
            }
            return counted;
        }

        int distanceTotal() {
            int total = 0;
            for (int request = 0; request < count; request++) {
                if (distances[request] != NONE) {
                    total += distances[request];
                }
            }
            return total;
        }

        void restart() {
            count = 0;
            latest.dropAll();
        }

        private int distanceTo(int key) {
            // The keys asked for since a key's latest request are just those behind it in the order.
            int place = latest.find(key);
            return place == NONE ? NONE : latest.length() - 1 - place;
        }
    }

    /** The bytes of a text, none of which is 0. */
    private static final class Tape {
        private final int[] bytes = new int[MOST_BYTES];
        private int count = 0;

        static int bytesOf(int word) {
            int counted = 0;
            for (int shift = 24; shift >= 0; shift -= 8) {
                if (((word >>> shift) & 255) != 0) {
                    counted++;
                }
            }
            return counted;
        }

        int length() {
            return count;
        }

        int byteIn(int index) {
            return index >= 0 && index < count ? bytes[index] : NONE;
        }

        void addBytes(int word) {
            for (int shift = 24; shift >= 0; shift -= 8) {
                int added = (word >>> shift) & 255;
                if (added != 0 && count < MOST_BYTES) {
                    bytes[count] = added;
                    count++;
                }
            }
        }

        int empty() {
            int before = count;
            count = 0;
            return before;
        }
    }

    /**
     * A program as the row of the steps that a run does: loops are unrolled while it is read, and
     * what lies behind the last step that a run may do is left out.
     */
    private static final class Program {
        private final int[] letters = new int[MOST_STEPS];
        private final int[] numbers = new int[MOST_STEPS];
        private int count = 0;
        private final int[] loopStarts = new int[MOST_OPEN];
        private final int[] loopTimes = new int[MOST_OPEN];
        private int open = 0;

        void restart() {
            count = 0;
            open = 0;
        }

        int length() {
            return count;
        }

        int letterIn(int step) {
            return step >= 0 && step < count ? letters[step] : NONE;
        }

        int numberIn(int step) {
            return step >= 0 && step < count ? numbers[step] : NONE;
        }

        boolean isInLoop() {
            return open > 0;
        }

        boolean canOpenLoop() {
            return open < MOST_OPEN;
        }

        void addStep(int letter, int number) {
            if (count < MOST_STEPS) {
                letters[count] = letter;
                numbers[count] = number;
                count++;
            }
        }

        void openLoop(int times) {
            if (open < MOST_OPEN) {
                loopStarts[open] = count;
                loopTimes[open] = times;
                open++;
            }
        }

        void closeLoop() {
            if (open <= 0) {
                return;
            }
            open--;
            int start = loopStarts[open];
            int end = count;
            // What stands in the braces was added once when it was read.
            for (int time = 1; time < loopTimes[open]; time++) {
                for (int step = start; step < end; step++) {
                    addStep(letterIn(step), numberIn(step));
                }
            }
        }
    }

    /**
     * Reads the tape token by token. The position is always that of the first byte of the token
     * that comes next, or the length of the text, so where reading stops it is the error position.
     */
    private static final class ProgramReader {
        private final Tape tape = new Tape();
        private final Program program = new Program();
        private int position = 0;

        Tape tape() {
            return tape;
        }

        Program program() {
            return program;
        }

        /** Returns the error position; NONE if the text has no error. */
        int read() {
            program.restart();
            position = 0;
            pass(0);
            // Each part that fits is a byte or more, so no text has more parts than bytes.
            for (int part = 0; part < MOST_BYTES && position < tape.length(); part++) {
                if (!readPart()) {
                    return position;
                }
            }
            return program.isInLoop() ? position : NONE;
        }

        private boolean readPart() {
            switch (tape.byteIn(position)) {
                case 'l':
                case 's':
                case 'a':
                    return readStep(WORDS - 1);
                case 'c':
                    return readStep(MOST_NUMBER);
                case 'x':
                    return readLoopStart();
                case '}':
                    return readLoopEnd();
                default:
                    return false;
            }
        }

        private boolean readStep(int most) {
            int letter = tape.byteIn(position);
            pass(1);
            int number = readNumber(0, most);
            if (number == NONE || !readSign(';')) {
                return false;
            }
            program.addStep(letter, number);
            return true;
        }

        private boolean readLoopStart() {
            pass(1);
            int times = readNumber(1, MOST_TIMES);
            if (times == NONE || !program.canOpenLoop() || !readSign('{')) {
                return false;
            }
            program.openLoop(times);
            return true;
        }

        private boolean readLoopEnd() {
            if (!program.isInLoop()) {
                return false;
            }
            program.closeLoop();
            pass(1);
            return true;
        }

        private boolean readSign(int sign) {
            if (tape.byteIn(position) != sign) {
                return false;
            }
            pass(1);
            return true;
        }

        /** Returns NONE, and stays where it is, if no NUMBER in the range comes next. */
        private int readNumber(int least, int most) {
            int digits = countDigits();
            if (digits < 1 || digits > MOST_DIGITS) {
                return NONE;
            }
            int number = 0;
            for (int index = 0; index < digits; index++) {
                number = 10 * number + tape.byteIn(position + index) - '0';
            }
            if (number < least || number > most) {
                return NONE;
            }
            pass(digits);
            return number;
        }

        private int countDigits() {
            int digits = 0;
            while (digits < MOST_BYTES && isDigit(tape.byteIn(position + digits))) {
                digits++;
            }
            return digits;
        }

        /** Passes the bytes of a token, and the blanks behind it. */
        private void pass(int bytes) {
            position += bytes;
            while (position < tape.length() && isBlank(tape.byteIn(position))) {
                position++;
            }
        }

        private static boolean isDigit(int sign) {
            return sign >= '0' && sign <= '9';
        }

        private static boolean isBlank(int sign) {
            return sign == 32 || sign == 10;
        }
    }

    /** The disc, the frames and the accumulator. */
    private static final class Machine {
        private final int[] disc = new int[WORDS];
        /** What the frames hold, kept at its addresses; it counts only while its page is resident. */
        private final int[] held = new int[WORDS];
        private final boolean[] dirty = new boolean[PAGES];
        private final UseOrder order = new UseOrder();
        private int frames = FIRST_FRAMES;
        private int accumulated = 0;
        private int faultCount = 0;
        private int writeCount = 0;

        Machine() {
            for (int address = 0; address < WORDS; address++) {
                disc[address] = address;
            }
        }

        UseOrder pages() {
            return order;
        }

        int accumulated() {
            return accumulated;
        }

        int faultCount() {
            return faultCount;
        }

        int writeCount() {
            return writeCount;
        }

        boolean hasChanged(int page) {
            return page >= 0 && page < PAGES && dirty[page];
        }

        int discIn(int address) {
            return address >= 0 && address < WORDS ? disc[address] : 0;
        }

        int wordIn(int address) {
            if (address < 0 || address >= WORDS) {
                return 0;
            }
            return order.holds(address / PAGE_WORDS) ? held[address] : disc[address];
        }

        void perform(int letter, int number) {
            if (letter == 'c') {
                accumulated = number;
                return;
            }
            access(number / PAGE_WORDS);
            if (letter == 'l') {
                accumulated = wordIn(number);
            } else if (letter == 'a') {
                accumulated += wordIn(number);
            } else {
                storeWord(number, accumulated);
            }
        }

        int changeFrames(int newFrames) {
            int written = writeAll();
            order.dropAll();
            frames = newFrames;
            return written;
        }

        int writeAll() {
            int before = writeCount;
            for (int page = 0; page < PAGES; page++) {
                writeIfDirty(page);
            }
            return writeCount - before;
        }

        private void access(int page) {
            if (!order.use(page)) {
                faultCount++;
                copyPage(page, disc, held);
            }
            writeIfDirty(order.dropBeyond(frames));
        }

        private void storeWord(int address, int word) {
            if (address >= 0 && address < WORDS) {
                held[address] = word;
                dirty[address / PAGE_WORDS] = true;
            }
        }

        private void writeIfDirty(int page) {
            if (hasChanged(page)) {
                copyPage(page, held, disc);
                dirty[page] = false;
                writeCount++;
            }
        }

        private static void copyPage(int page, int[] from, int[] to) {
            if (page < 0 || page >= PAGES) {
                return;
            }
            for (int address = PAGE_WORDS * page; address < PAGE_WORDS * (page + 1); address++) {
                to[address] = from[address];
            }
        }
    }
}
