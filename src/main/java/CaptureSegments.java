/**
 * The memory of a scope that captures segments. ../shared/DOC.md says what it promises; its numbers are named here
 * where a choice follows from them.
 */
public final class CaptureSegments {
    public static final int NO_SUCH = -1, BAD_VALUE = -2, BAD_TEXT = -3, TOO_MANY = -4, NOT_POSSIBLE = -5, NONE = -6;
    public static final int KIND = 0, LEVEL = 1, HYST = 2, LOW = 3, HIGH = 4, DEPTH = 5, PRE = 6, HOLD = 7, KEEP = 8, OVER = 9;
    public static final int RISES = 0, FALLS = 1, RUNTS = 2;

    private static final int FINE = 0;
    private static final int MOST_SAMPLES = 400, MOST_TIMES = 100, MOST_KEPT = 6;
    private static final int MOST_CHARACTERS = 80, MOST_PUT = 8, MOST_NUMBER = 100;
    private static final int MOST_STATES = 6, SLOTS = 2;
    private static final int LEAST_SAMPLE = -100, GREATEST_SAMPLE = 100;
    private static final int MORE = 1000, MORE_OF_SUM = 10000;

    private static final int SETTINGS = 10;
    private static final int[] LEAST_OF_SETTING = {0, -100, 0, -100, -100, 1, 0, 0, 1, 0};
    private static final int[] GREATEST_OF_SETTING = {2, 100, 50, 100, 100, 32, 31, 60, 6, 1};
    private static final int[] FIRST_OF_SETTING = {0, 0, 2, -20, 20, 8, 2, 4, 4, 0};

    private static final int OFF = 0, ARMED = 1, INSIDE = 2, FIRED = 4;
    private static final int TOO_FEW = 0, READY = 1, NO_ROOM = 2, CAPTURES = 3;

    /** What segment() tells; the first four are also the numbers that are held of a segment, in this order. */
    private static final int TRIGGER_OF = 0, DEPTH_OF = 1, PRE_OF = 2, KIND_OF = 3;
    private static final int LEAST_OF = 4, GREATEST_OF = 5, SUM_OF = 6, UPS_OF = 7;
    private static final int NUMBERS_OF_SEGMENT = 4;

    private static final int COUNT_OF_SETTING = 10, COUNT_OF_PAD = 20, COUNT_OF_HISTORY = 21;

    private static final int SETS_KIND = 0, SETS_LEVEL = 1, FEEDS = 2, CLEARS = 3;
    private static final int END_OF_TEXT = 0;

    private final Memory memory;
    private final History history;
    private final Slots slots;
    private final Pad pad;

    public CaptureSegments() {
        memory = new Memory();
        history = new History();
        slots = new Slots();
        pad = new Pad();
    }

    // ---- changes

    public int set(int setting, int value) {
        int error = memory.errorOfSetting(setting, value);
        if (error != FINE) {
            return error;
        }
        history.record(memory);
        return memory.changeSetting(setting, value) + MORE;
    }

    public int feed(int value, int times) {
        int error = memory.errorOfSamples(value, times);
        if (error != FINE) {
            return error;
        }
        history.record(memory);
        return memory.takeSamples(value, times);
    }

    public int clear() {
        history.record(memory);
        return memory.forget();
    }

    public int drop(int segment) {
        if (!memory.segments.has(segment)) {
            return NO_SUCH;
        }
        history.record(memory);
        memory.segments.removeAt(segment);
        return memory.segments.size;
    }

    // ---- what there is

    public int segment(int segment, int what) {
        if (!memory.segments.has(segment)) {
            return NO_SUCH;
        }
        switch (what) {
            case TRIGGER_OF:
            case DEPTH_OF:
            case PRE_OF:
            case KIND_OF:
                return memory.segments.numberOf(segment, what);
            case LEAST_OF:
                return memory.leastOf(segment) + MORE;
            case GREATEST_OF:
                return memory.greatestOf(segment) + MORE;
            case SUM_OF:
                return memory.sumOf(segment) + MORE_OF_SUM;
            case UPS_OF:
                return memory.upsOf(segment);
            default:
                return BAD_VALUE;
        }
    }

    public int sampleOf(int segment, int place) {
        if (!memory.segments.has(segment) || place < 0 || place >= memory.segments.numberOf(segment, DEPTH_OF)) {
            return NO_SUCH;
        }
        return memory.sampleAt(memory.segments.firstOf(segment) + place) + MORE;
    }

    public int sample(int number) {
        if (number < 0 || number >= memory.samplesSoFar) {
            return NO_SUCH;
        }
        return memory.sampleAt(number) + MORE;
    }

    public int count(int what) {
        if (what < 0 || what > COUNT_OF_HISTORY) {
            return BAD_VALUE;
        }
        if (what == COUNT_OF_HISTORY) {
            return history.size;
        }
        if (what == COUNT_OF_PAD) {
            return pad.length;
        }
        if (what >= COUNT_OF_SETTING) {
            return memory.settingOf(what - COUNT_OF_SETTING) + MORE;
        }
        return memory.numberOf(what);
    }

    // ---- questions; nothing changes

    public int fires(int level) {
        if (level < LEAST_SAMPLE || level > GREATEST_SAMPLE) {
            return BAD_VALUE;
        }
        if (level > memory.greatestLevel()) {
            return NOT_POSSIBLE;
        }
        return memory.firingsWith(level);
    }

    public int bestLevel(int what) {
        if (what != 0 && what != 1) {
            return BAD_VALUE;
        }
        int best = LEAST_SAMPLE;
        int most = memory.firingsWith(best);
        int greatest = memory.greatestLevel();
        for (int level = LEAST_SAMPLE + 1; level <= greatest; level++) {
            int firings = memory.firingsWith(level);
            if (firings > most) {
                best = level;
                most = firings;
            }
        }
        return what == 0 ? best + MORE : most;
    }

    public int unlike(int one, int other) {
        if (!memory.segments.has(one) || !memory.segments.has(other)) {
            return NO_SUCH;
        }
        return memory.differenceOf(one, other);
    }

    public int nearest(int segment) {
        if (!memory.segments.has(segment)) {
            return NO_SUCH;
        }
        int found = NONE;
        int least = 0;
        for (int other = 0; other < memory.segments.size; other++) {
            if (other != segment) {
                int difference = memory.differenceOf(segment, other);
                if (found == NONE || difference < least) {
                    found = other;
                    least = difference;
                }
            }
        }
        return found;
    }

    // ---- texts

    public int put(long characters) {
        int number = Pad.numberOfCharacters(characters);
        if (number == 0) {
            return BAD_VALUE;
        }
        if (pad.length + number > MOST_CHARACTERS) {
            return TOO_MANY;
        }
        pad.append(characters, number);
        return pad.length;
    }

    public int wipe() {
        int length = pad.length;
        pad.length = 0;
        return length;
    }

    public int fault() {
        return pad.read();
    }

    public int carryOut() {
        if (pad.read() != NONE) {
            return BAD_TEXT;
        }
        history.record(memory);
        pad.length = 0;
        int orders = 0;
        int steps = pad.steps;
        for (int step = 0; step < steps; step++) {
            if (carryOutStep(step) < 0) {
                return orders;
            }
            if (pad.endsOrder(step)) {
                orders++;
            }
        }
        return orders;
    }

    /** Returns an error, or what is not below 0. An order of a text records nothing by itself (promise 18). */
    private int carryOutStep(int step) {
        int value = at(pad.values, step);
        switch (at(pad.actions, step)) {
            case SETS_KIND:
                memory.changeSetting(KIND, value);
                return FINE;
            case SETS_LEVEL:
                memory.changeSetting(LEVEL, value);
                return FINE;
            case FEEDS:
                int times = at(pad.times, step);
                int error = memory.errorOfSamples(value, times);
                return error != FINE ? error : memory.takeSamples(value, times);
            default:
                return memory.forget();
        }
    }

    // ---- undo, saving

    public int undo() {
        if (history.size == 0) {
            return NOT_POSSIBLE;
        }
        history.bringBack(memory);
        return history.size;
    }

    public int save(int slot) {
        if (slot < 0 || slot >= SLOTS) {
            return BAD_VALUE;
        }
        slots.keep(slot, memory);
        return memory.segments.size;
    }

    public int restore(int slot) {
        if (slot < 0 || slot >= SLOTS) {
            return BAD_VALUE;
        }
        if (!slots.holds(slot)) {
            return NOT_POSSIBLE;
        }
        history.record(memory);
        slots.bringBack(slot, memory);
        return memory.segments.size;
    }

    // ---- rows; no index goes past their ends

    private static int at(int[] row, int index) {
        return index >= 0 && index < row.length ? row[index] : 0;
    }

    private static void writeAt(int[] row, int index, int value) {
        if (index >= 0 && index < row.length) {
            row[index] = value;
        }
    }

    private static void copyRow(int[] from, int[] to) {
        System.arraycopy(from, 0, to, 0, Math.min(from.length, to.length));
    }

    private static Memory memoryAt(Memory[] row, int index) {
        return index >= 0 && index < row.length ? row[index] : null;
    }

    /** The segments that are kept, the oldest one first. Their samples stand in the memory, from firstOf() on. */
    private static final class Segments {
        private final int[] numbers = new int[MOST_KEPT * NUMBERS_OF_SEGMENT];
        private int size = 0;

        boolean has(int segment) {
            return segment >= 0 && segment < size;
        }

        int numberOf(int segment, int what) {
            return at(numbers, segment * NUMBERS_OF_SEGMENT + what);
        }

        int firstOf(int segment) {
            return numberOf(segment, TRIGGER_OF) - numberOf(segment, PRE_OF);
        }

        int behindOf(int segment) {
            return numberOf(segment, DEPTH_OF) - numberOf(segment, PRE_OF) - 1;
        }

        void append(int trigger, int depth, int pre, int kind) {
            if (size < MOST_KEPT) {
                int start = size * NUMBERS_OF_SEGMENT;
                writeAt(numbers, start + TRIGGER_OF, trigger);
                writeAt(numbers, start + DEPTH_OF, depth);
                writeAt(numbers, start + PRE_OF, pre);
                writeAt(numbers, start + KIND_OF, kind);
                size++;
            }
        }

        void removeAt(int segment) {
            if (has(segment)) {
                size--;
                for (int i = segment * NUMBERS_OF_SEGMENT; i < size * NUMBERS_OF_SEGMENT; i++) {
                    writeAt(numbers, i, at(numbers, i + NUMBERS_OF_SEGMENT));
                }
            }
        }

        void keepLatest(int most) {
            for (int i = 0; i < MOST_KEPT && size > most; i++) {
                removeAt(0);
            }
        }

        void takeOver(Segments from) {
            copyRow(from.numbers, numbers);
            size = from.size;
        }
    }

    /** All that undo() and restore() bring back. */
    private static final class Memory {
        private final int[] settings = new int[SETTINGS];
        private final int[] samples = new int[MOST_SAMPLES];
        private final Segments segments = new Segments();
        private int samplesSoFar = 0;
        private int detector = OFF;
        private int firings = 0;
        private int triggers = 0;
        private int ignored = 0;
        private int completed = 0;
        private int since = 0;
        /** Of the segment that is being captured; there is none while it has nothing yet to get. */
        private int capturedTrigger = 0;
        private int capturedDepth = 0;
        private int capturedPre = 0;
        private int capturedKind = RISES;
        private int yetToGet = 0;

        Memory() {
            copyRow(FIRST_OF_SETTING, settings);
        }

        void takeOver(Memory from) {
            copyRow(from.settings, settings);
            copyRow(from.samples, samples);
            segments.takeOver(from.segments);
            samplesSoFar = from.samplesSoFar;
            detector = from.detector;
            firings = from.firings;
            triggers = from.triggers;
            ignored = from.ignored;
            completed = from.completed;
            since = from.since;
            capturedTrigger = from.capturedTrigger;
            capturedDepth = from.capturedDepth;
            capturedPre = from.capturedPre;
            capturedKind = from.capturedKind;
            yetToGet = from.yetToGet;
        }

        // settings

        int settingOf(int setting) {
            return setting >= 0 && setting < settings.length ? settings[setting] : 0;
        }

        int errorOfSetting(int setting, int value) {
            if (setting < 0 || setting >= SETTINGS) {
                return BAD_VALUE;
            }
            if (value < at(LEAST_OF_SETTING, setting) || value > at(GREATEST_OF_SETTING, setting)) {
                return BAD_VALUE;
            }
            return fits(setting, value) ? FINE : NOT_POSSIBLE;
        }

        private boolean fits(int setting, int value) {
            switch (setting) {
                case LOW:
                    return value < settingOf(HIGH);
                case HIGH:
                    return value > settingOf(LOW);
                case DEPTH:
                    return yetToGet == 0 && value > settingOf(PRE);
                case PRE:
                    return yetToGet == 0 && value < settingOf(DEPTH);
                default:
                    return true;
            }
        }

        /** Returns the previous value. */
        int changeSetting(int setting, int value) {
            int previous = settingOf(setting);
            writeAt(settings, setting, value);
            if (setting <= HIGH) {
                detector = OFF;
            }
            if (setting == KEEP) {
                segments.keepLatest(value);
            }
            return previous;
        }

        // samples

        int errorOfSamples(int value, int times) {
            if (value < LEAST_SAMPLE || value > GREATEST_SAMPLE || times < 1 || times > MOST_TIMES) {
                return BAD_VALUE;
            }
            return samplesSoFar + times > MOST_SAMPLES ? TOO_MANY : FINE;
        }

        /** Returns how many segments become complete. */
        int takeSamples(int value, int times) {
            int complete = 0;
            for (int i = 0; i < times; i++) {
                if (takeSample(value)) {
                    completeSegment();
                    complete++;
                }
            }
            return complete;
        }

        /** Returns whether it is the last sample of a segment, which may also be its trigger. */
        private boolean takeSample(int value) {
            boolean fired = detect(value);
            boolean captured = yetToGet > 0;
            boolean begins = fired && phase() == READY;
            if (captured) {
                yetToGet--;
            } else if (begins) {
                beginSegment();
            }
            if (fired && !begins) {
                ignored++;
            }
            writeAt(samples, samplesSoFar, value);
            samplesSoFar++;
            since++;
            return (captured || begins) && yetToGet == 0;
        }

        private boolean detect(int value) {
            int level = settingOf(settingOf(KIND) == RUNTS ? LOW : LEVEL);
            int next = detectorAfter(value, detector, level);
            detector = next & ~FIRED;
            if ((next & FIRED) == 0) {
                return false;
            }
            firings++;
            return true;
        }

        /** The detector after a sample, with FIRED if it fires; the level is LOW for runts. */
        private int detectorAfter(int value, int before, int level) {
            switch (settingOf(KIND)) {
                case RISES:
                    if (before == ARMED && value >= level) {
                        return OFF | FIRED;
                    }
                    return value < level - settingOf(HYST) ? ARMED : before;
                case FALLS:
                    if (before == ARMED && value <= level) {
                        return OFF | FIRED;
                    }
                    return value > level + settingOf(HYST) ? ARMED : before;
                default:
                    if (value < level) {
                        return before == INSIDE ? ARMED | FIRED : ARMED;
                    }
                    if (value >= settingOf(HIGH)) {
                        return OFF;
                    }
                    return before == ARMED ? INSIDE : before;
            }
        }

        /** The sample that comes next is the trigger. */
        private void beginSegment() {
            triggers++;
            capturedTrigger = samplesSoFar;
            capturedDepth = settingOf(DEPTH);
            capturedPre = settingOf(PRE);
            capturedKind = settingOf(KIND);
            yetToGet = capturedDepth - capturedPre - 1;
        }

        private void completeSegment() {
            segments.keepLatest(settingOf(KEEP) - 1);
            segments.append(capturedTrigger, capturedDepth, capturedPre, capturedKind);
            completed++;
            since = 0;
        }

        /** Returns how many segments were kept. */
        int forget() {
            int kept = segments.size;
            segments.size = 0;
            samplesSoFar = 0;
            since = 0;
            yetToGet = 0;
            detector = OFF;
            return kept;
        }

        // what there is

        int phase() {
            if (yetToGet > 0) {
                return CAPTURES;
            }
            if (segments.size >= settingOf(KEEP) && settingOf(OVER) == 0) {
                return NO_ROOM;
            }
            return since < settingOf(PRE) || since < settingOf(HOLD) ? TOO_FEW : READY;
        }

        /** What count() tells ahead of the settings. */
        int numberOf(int what) {
            switch (what) {
                case 0:
                    return samplesSoFar;
                case 1:
                    return segments.size;
                case 2:
                    return phase();
                case 3:
                    return detector;
                case 4:
                    return firings;
                case 5:
                    return triggers;
                case 6:
                    return ignored;
                case 7:
                    return completed;
                case 8:
                    return since;
                default:
                    return yetToGet;
            }
        }

        int sampleAt(int number) {
            return at(samples, number);
        }

        int leastOf(int segment) {
            int first = segments.firstOf(segment);
            int depth = segments.numberOf(segment, DEPTH_OF);
            int least = sampleAt(first);
            for (int i = 1; i < depth; i++) {
                least = Math.min(least, sampleAt(first + i));
            }
            return least;
        }

        int greatestOf(int segment) {
            int first = segments.firstOf(segment);
            int depth = segments.numberOf(segment, DEPTH_OF);
            int greatest = sampleAt(first);
            for (int i = 1; i < depth; i++) {
                greatest = Math.max(greatest, sampleAt(first + i));
            }
            return greatest;
        }

        int sumOf(int segment) {
            int first = segments.firstOf(segment);
            int depth = segments.numberOf(segment, DEPTH_OF);
            int sum = 0;
            for (int i = 0; i < depth; i++) {
                sum += sampleAt(first + i);
            }
            return sum;
        }

        int upsOf(int segment) {
            int first = segments.firstOf(segment);
            int depth = segments.numberOf(segment, DEPTH_OF);
            int ups = 0;
            for (int i = 1; i < depth; i++) {
                if (sampleAt(first + i) > sampleAt(first + i - 1)) {
                    ups++;
                }
            }
            return ups;
        }

        // questions

        /** The greatest level that fires() can be asked about. */
        int greatestLevel() {
            return settingOf(KIND) == RUNTS ? settingOf(HIGH) - 1 : GREATEST_SAMPLE;
        }

        int firingsWith(int level) {
            int found = 0;
            int trial = OFF;
            for (int i = 0; i < samplesSoFar; i++) {
                int next = detectorAfter(sampleAt(i), trial, level);
                if ((next & FIRED) != 0) {
                    found++;
                }
                trial = next & ~FIRED;
            }
            return found;
        }

        int differenceOf(int one, int other) {
            int ahead = Math.min(segments.numberOf(one, PRE_OF), segments.numberOf(other, PRE_OF));
            int behind = Math.min(segments.behindOf(one), segments.behindOf(other));
            int trigger = segments.numberOf(one, TRIGGER_OF);
            int otherTrigger = segments.numberOf(other, TRIGGER_OF);
            int sum = 0;
            for (int i = -ahead; i <= behind; i++) {
                sum += Math.abs(sampleAt(trigger + i) - sampleAt(otherTrigger + i));
            }
            return sum;
        }
    }

    /** A ring of states, made once and written over. */
    private static final class History {
        private final Memory[] states = new Memory[MOST_STATES];
        private int next = 0;
        private int size = 0;

        History() {
            for (int i = 0; i < states.length; i++) {
                states[i] = new Memory();
            }
        }

        void record(Memory memory) {
            Memory state = memoryAt(states, next);
            if (state != null) {
                state.takeOver(memory);
                next = next == MOST_STATES - 1 ? 0 : next + 1;
                size = Math.min(size + 1, MOST_STATES);
            }
        }

        void bringBack(Memory memory) {
            int latest = next == 0 ? MOST_STATES - 1 : next - 1;
            Memory state = memoryAt(states, latest);
            if (state != null && size > 0) {
                memory.takeOver(state);
                next = latest;
                size--;
            }
        }
    }

    private static final class Slots {
        private final Memory[] states = new Memory[SLOTS];
        private final boolean[] saved = new boolean[SLOTS];

        Slots() {
            for (int i = 0; i < states.length; i++) {
                states[i] = new Memory();
            }
        }

        boolean holds(int slot) {
            return slot >= 0 && slot < saved.length && saved[slot];
        }

        void keep(int slot, Memory memory) {
            Memory state = memoryAt(states, slot);
            if (state != null && slot >= 0 && slot < saved.length) {
                state.takeOver(memory);
                saved[slot] = true;
            }
        }

        void bringBack(int slot, Memory memory) {
            Memory state = memoryAt(states, slot);
            if (state != null) {
                memory.takeOver(state);
            }
        }
    }

    /** The text, and the steps that it was read into: each sample of an order is a step of its own. */
    private static final class Pad {
        private final int[] codes = new int[MOST_CHARACTERS];
        private int length = 0;

        private final int[] actions = new int[MOST_CHARACTERS];
        private final int[] values = new int[MOST_CHARACTERS];
        private final int[] times = new int[MOST_CHARACTERS];
        /** 1 for the last step of an order. */
        private final int[] ends = new int[MOST_CHARACTERS];
        private int steps = 0;

        /** Where reading has come to; at a fault it stays. */
        private int place = 0;
        private int number = 0;

        /** Returns 0 if they are not as put() wants them. */
        static int numberOfCharacters(long characters) {
            int found = 0;
            long rest = characters;
            for (int i = 0; i < MOST_PUT && rest != 0; i++) {
                long code = rest & 255;
                if (code < 33 || code > 126) {
                    return 0;
                }
                found++;
                rest >>>= 8;
            }
            return found;
        }

        void append(long characters, int count) {
            for (int i = 0; i < count; i++) {
                writeAt(codes, length + count - 1 - i, (int) (characters >>> (8 * i) & 255));
            }
            length += count;
        }

        boolean endsOrder(int step) {
            return at(ends, step) == 1;
        }

        /** Reads the text into steps; returns its fault, or NONE. */
        int read() {
            place = 0;
            steps = 0;
            boolean good = readOrder();
            for (int i = 0; i < MOST_CHARACTERS && good && code() == ';'; i++) {
                place++;
                good = readOrder();
            }
            return good && place >= length ? NONE : place;
        }

        private boolean readOrder() {
            boolean good;
            switch (code()) {
                case 'k':
                    good = readKind();
                    break;
                case 'l':
                    good = readLevel();
                    break;
                case 'c':
                    place++;
                    addStep(CLEARS, 0, 1);
                    good = true;
                    break;
                default:
                    good = readSample();
                    for (int i = 0; i < MOST_CHARACTERS && good && code() == ','; i++) {
                        place++;
                        good = readSample();
                    }
            }
            writeAt(ends, steps - 1, 1);
            return good;
        }

        private boolean readKind() {
            place++;
            int code = code();
            if (code < '0' || code > '2') {
                return false;
            }
            place++;
            addStep(SETS_KIND, code - '0', 1);
            return true;
        }

        private boolean readLevel() {
            place++;
            if (!readValue()) {
                return false;
            }
            addStep(SETS_LEVEL, number, 1);
            return true;
        }

        private boolean readSample() {
            if (!readValue()) {
                return false;
            }
            int value = number;
            int often = 1;
            if (code() == '*') {
                place++;
                if (!readNumber()) {
                    return false;
                }
                often = number;
            }
            addStep(FEEDS, value, often);
            return true;
        }

        /** The value is in number then. */
        private boolean readValue() {
            boolean negative = code() == '-';
            if (negative) {
                place++;
            }
            if (!readNumber()) {
                return false;
            }
            if (negative) {
                number = -number;
            }
            return true;
        }

        private boolean readNumber() {
            if (!isDigit(code())) {
                return false;
            }
            number = code() - '0';
            place++;
            for (int i = 0; i < MOST_CHARACTERS && isDigit(code()); i++) {
                int longer = number * 10 + code() - '0';
                if (number == 0 || longer > MOST_NUMBER) {
                    return false;
                }
                number = longer;
                place++;
            }
            return true;
        }

        private static boolean isDigit(int code) {
            return code >= '0' && code <= '9';
        }

        /** The character at the place, or END_OF_TEXT. */
        private int code() {
            return place >= 0 && place < length && place < codes.length ? codes[place] : END_OF_TEXT;
        }

        private void addStep(int action, int value, int often) {
            writeAt(actions, steps, action);
            writeAt(values, steps, value);
            writeAt(times, steps, often);
            writeAt(ends, steps, 0);
            steps++;
        }
    }
}
