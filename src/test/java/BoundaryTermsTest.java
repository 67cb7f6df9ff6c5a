import java.util.LinkedHashMap;
import java.util.Map;

/** The conventions, the settings, the samples and the detector: "Terms" and "Settings" of the document. */
public final class BoundaryTermsTest extends Scopes {
    private interface Call {
        int on(CaptureSegments x);
    }

    public static void main(String[] args) {
        Boundaries.main(BoundaryTermsTest.class);
    }

    // ---- conventions

    @Sentence("A method that fails returns one of the error codes NO_SUCH (-1), BAD_VALUE (-2), BAD_TEXT (-3), "
        + "TOO_MANY (-4) and NOT_POSSIBLE (-5);")
    static void terms_errorCodes(Check check) {
        CaptureSegments x = new CaptureSegments();
        check.due("drop(0) of none", x.drop(0), -1);
        check.due("set(10, 0)", x.set(10, 0), -2);
        check.due("carryOut() of an empty pad", x.carryOut(), -3);
        check.due("undo() of nothing", x.undo(), -5);
        fill(x, 400);
        check.due("feed(0, 1) behind 400", x.feed(0, 1), -4);
        check.due("NO_SUCH", CaptureSegments.NO_SUCH, -1);
        check.due("BAD_VALUE", CaptureSegments.BAD_VALUE, -2);
        check.due("BAD_TEXT", CaptureSegments.BAD_TEXT, -3);
        check.due("TOO_MANY", CaptureSegments.TOO_MANY, -4);
        check.due("NOT_POSSIBLE", CaptureSegments.NOT_POSSIBLE, -5);
    }

    @Sentence("it names its errors in the order in which they are checked, and the first one that applies is returned.")
    static void terms_firstErrorOfSet(Check check) {
        CaptureSegments x = new CaptureSegments();
        check.due("LOW too high, and not below HIGH", x.set(LOW, 101), BAD_VALUE);
        check.due("HIGH too low, and not above LOW", x.set(HIGH, -101), BAD_VALUE);
        check.due("PRE too high, and not less than DEPTH", x.set(PRE, 32), BAD_VALUE);
        check.due("DEPTH too low, and not above PRE", x.set(DEPTH, 0), BAD_VALUE);
        feedAll(x, -9, -9, -9, -9, 9);
        check.due("captures", x.count(2), 3);
        check.due("PRE too low, while captured", x.set(PRE, -1), BAD_VALUE);
        check.due("DEPTH too high, while captured", x.set(DEPTH, 33), BAD_VALUE);
    }

    @Sentence("it names its errors in the order in which they are checked, and the first one that applies is returned.")
    static void terms_firstErrorOfFeed(Check check) {
        CaptureSegments x = new CaptureSegments();
        fill(x, 400);
        check.due("a bad value, and too many", x.feed(101, 1), BAD_VALUE);
        check.due("bad times, and too many", x.feed(0, 101), BAD_VALUE);
        check.due("too many alone", x.feed(0, 100), TOO_MANY);
    }

    @Sentence("it names its errors in the order in which they are checked, and the first one that applies is returned.")
    static void terms_firstErrorOfSegment(Check check) {
        CaptureSegments x = bare();
        check.due("no such segment, and a bad what", x.segment(0, 8), NO_SUCH);
        keep(x, 1);
        check.due("no such segment, and a bad what", x.segment(1, -1), NO_SUCH);
        check.due("a bad what alone", x.segment(0, -1), BAD_VALUE);
    }

    @Sentence("it names its errors in the order in which they are checked, and the first one that applies is returned.")
    static void terms_firstErrorOfPut(Check check) {
        CaptureSegments x = new CaptureSegments();
        putText(x, "1".repeat(80));
        check.due("no character, and the pad is full", x.put(0), BAD_VALUE);
        check.due("a bad code, and the pad is full", x.put(0x3120), BAD_VALUE);
        check.due("a bit above, and the pad is full", x.put(0x310031), BAD_VALUE);
        check.due("too many alone", x.put(0x31), TOO_MANY);
    }

    @Sentence("it names its errors in the order in which they are checked, and the first one that applies is returned.")
    static void terms_firstErrorOfFires(Check check) {
        CaptureSegments x = with(KIND, RUNTS);
        check.due("out of range, and HIGH is not above it", x.fires(101), BAD_VALUE);
        check.due("HIGH is not above it", x.fires(100), NOT_POSSIBLE);
    }

    @Sentence("it names its errors in the order in which they are checked, and the first one that applies is returned.")
    static void terms_firstErrorOfRestore(Check check) {
        CaptureSegments x = new CaptureSegments();
        check.due("no such slot, and nothing saved in it", x.restore(2), BAD_VALUE);
        check.due("no such slot, and nothing saved in it", x.restore(-1), BAD_VALUE);
        check.due("nothing saved in it", x.restore(1), NOT_POSSIBLE);
    }

    /** Two segments are kept, one is captured, the detector is armed, slot 0 and the history hold states. */
    private static CaptureSegments lived(String pad) {
        CaptureSegments x = with(HOLD, 0, PRE, 1, DEPTH, 4, HYST, 0);
        feedAll(x, -3, 5, 6, 7, -7, 8, 9, 10);
        x.save(0);
        feedAll(x, -4, 2, -6);
        putText(x, pad);
        return x;
    }

    /** No sample, and no character, has room any more. */
    private static CaptureSegments full() {
        CaptureSegments x = bare(HYST, 0);
        feedAll(x, -1, 1, -1, 1);
        fill(x, 396);
        x.save(0);
        putText(x, "1,".repeat(40));
        return x;
    }

    private static CaptureSegments undone() {
        CaptureSegments x = new CaptureSegments();
        x.feed(-5, 3);
        x.save(0);
        x.undo();
        return x;
    }

    /** All that can be seen of an object, by what it is, what it was and what it becomes: some 460 calls. */
    private static String unfolded(CaptureSegments x) {
        StringBuilder told = new StringBuilder(shown(x));
        told.append("\n    feed ").append(x.feed(3, 1)).append(shown(x)).append("\n    undo");
        // Nothing is undone that would be refused: a refused undo() must not answer for another one.
        for (int left = Math.min(3, x.count(21)); left > 0; left--) {
            told.append(' ').append(x.undo());
        }
        told.append(shown(x)).append("\n    restore ").append(x.restore(0)).append(x.wipe());
        return told.append(shown(x)).toString();
    }

    private static void changesNothing(Check check, String name, CaptureSegments x, Call call, int error,
            CaptureSegments twin) {
        check.due(name, call.on(x), error);
        check.due("behind " + name, unfolded(x), unfolded(twin));
    }

    private static Map<String, Call> callsThatAreRefused() {
        Map<String, Call> calls = new LinkedHashMap<>();
        calls.put("-2 set(-1, 0)", x -> x.set(-1, 0));
        calls.put("-2 set(10, 0)", x -> x.set(10, 0));
        calls.put("-2 set(KIND, 3)", x -> x.set(KIND, 3));
        calls.put("-2 set(LEVEL, 101)", x -> x.set(LEVEL, 101));
        calls.put("-2 set(HYST, -1)", x -> x.set(HYST, -1));
        calls.put("-2 set(KEEP, 0)", x -> x.set(KEEP, 0));
        calls.put("-5 set(LOW, 20)", x -> x.set(LOW, 20));
        calls.put("-5 set(HIGH, -20)", x -> x.set(HIGH, -20));
        calls.put("-5 set(DEPTH, 9)", x -> x.set(DEPTH, 9));
        calls.put("-5 set(PRE, 0)", x -> x.set(PRE, 0));
        calls.put("-2 feed(101, 1)", x -> x.feed(101, 1));
        calls.put("-2 feed(-101, 1)", x -> x.feed(-101, 1));
        calls.put("-2 feed(1, 0)", x -> x.feed(1, 0));
        calls.put("-2 feed(1, 101)", x -> x.feed(1, 101));
        calls.put("-1 drop(2)", x -> x.drop(2));
        calls.put("-1 drop(-1)", x -> x.drop(-1));
        calls.put("-1 segment(2, 0)", x -> x.segment(2, 0));
        calls.put("-2 segment(0, 8)", x -> x.segment(0, 8));
        calls.put("-1 sampleOf(0, 4)", x -> x.sampleOf(0, 4));
        calls.put("-1 sample(11)", x -> x.sample(11));
        calls.put("-2 count(22)", x -> x.count(22));
        calls.put("-2 fires(101)", x -> x.fires(101));
        calls.put("-2 bestLevel(2)", x -> x.bestLevel(2));
        calls.put("-1 unlike(0, 2)", x -> x.unlike(0, 2));
        calls.put("-1 nearest(2)", x -> x.nearest(2));
        calls.put("-2 put(0)", x -> x.put(0));
        calls.put("-2 put(0x2031)", x -> x.put(0x2031));
        calls.put("-3 carryOut()", x -> x.carryOut());
        calls.put("-2 save(2)", x -> x.save(2));
        calls.put("-2 restore(2)", x -> x.restore(2));
        calls.put("-5 restore(1)", x -> x.restore(1));
        return calls;
    }

    @Sentence("A call that returns an error changes nothing.")
    static void terms_refusedCallChangesNothing(Check check) {
        for (Map.Entry<String, Call> call : callsThatAreRefused().entrySet()) {
            int error = Integer.parseInt(call.getKey().substring(0, 2));
            changesNothing(check, call.getKey().substring(3), lived("7*2;k1;x"), call.getValue(), error, lived("7*2;k1;x"));
        }
        changesNothing(check, "feed(1, 1), full", full(), x -> x.feed(1, 1), TOO_MANY, full());
        changesNothing(check, "put(0x31), full", full(), x -> x.put(0x31), TOO_MANY, full());
        changesNothing(check, "undo() of nothing", undone(), x -> x.undo(), NOT_POSSIBLE, undone());
    }

    @Sentence("NONE (-6) is not an error; it is returned only if no error applies.")
    static void terms_noneOnlyIfNoErrorApplies(Check check) {
        CaptureSegments x = bare();
        check.due("nearest(0) of none", x.nearest(0), NO_SUCH);
        keep(x, 1);
        check.due("nearest(0) of one", x.nearest(0), -6);
        check.due("nearest(1) of one", x.nearest(1), NO_SUCH);
        check.due("nearest(-1) of one", x.nearest(-1), NO_SUCH);
        check.due("NONE", CaptureSegments.NONE, -6);
    }

    @Sentence("Everything is numbered from 0.")
    static void terms_numberedFrom0(Check check) {
        CaptureSegments x = bare();
        feedAll(x, -99, 1, -98, 2);
        check.due("the first sample", x.sample(0), 901);
        check.due("the first segment", x.segment(0, 0), 1);
        check.due("its first place", x.sampleOf(0, 0), 1001);
        check.due("the nearest of the second", x.nearest(1), 0);
        check.due("the first slot", x.save(0), 2);
        check.due("the first slot", x.restore(0), 2);
        putText(x, "x");
        check.due("a fault at the first character", x.fault(), 0);
        check.due("the first segment goes", x.drop(0), 1);
        check.due("the second is the first then", x.segment(0, 0), 3);
    }

    // ---- settings

    @Sentence("(In parentheses: range; first value.)")
    static void settings_firstValues(Check check) {
        check.counts("new", new CaptureSegments(), 10, 1000, 1000, 1002, 980, 1020, 1008, 1002, 1004, 1004, 1000);
    }

    /** The ends of a range, and what lies beyond them. */
    private static void range(Check check, CaptureSegments x, int setting, int least, int greatest, int first) {
        int undoable = x.count(21);
        String name = "set(" + setting + ", ..) ";
        for (int beyond : new int[] {least - 1, greatest + 1, LOWEST, HIGHEST}) {
            check.due(name + beyond, x.set(setting, beyond), BAD_VALUE);
        }
        check.due(name + "stays what it is at first", x.count(10 + setting), first + 1000);
        check.due(name + "recorded nothing", x.count(21), undoable);
        check.due(name + "least", x.set(setting, least), first + 1000);
        check.due(name + "is the least", x.count(10 + setting), least + 1000);
        check.due(name + "greatest", x.set(setting, greatest), least + 1000);
        check.due(name + "is the greatest", x.count(10 + setting), greatest + 1000);
    }

    @Sentence("KIND (0 to 2; 0): RISES, FALLS or RUNTS;")
    static void settings_kind(Check check) {
        range(check, new CaptureSegments(), KIND, 0, 2, 0);
        check.due("RISES", CaptureSegments.RISES, 0);
        check.due("FALLS", CaptureSegments.FALLS, 1);
        check.due("RUNTS", CaptureSegments.RUNTS, 2);
        CaptureSegments x = bare(KIND, RISES);
        feedAll(x, -99, 99);
        check.due("kind 0 fires with a rise", x.count(4), 1);
        x = bare(KIND, FALLS);
        feedAll(x, 99, -99);
        check.due("kind 1 fires with a fall", x.count(4), 1);
        x = bare(KIND, RUNTS);
        feedAll(x, -99, 0, -99);
        check.due("kind 2 fires with a runt", x.count(4), 1);
    }

    @Sentence("LEVEL (-100 to 100; 0);")
    static void settings_level(Check check) {
        range(check, new CaptureSegments(), LEVEL, -100, 100, 0);
    }

    @Sentence("HYST (0 to 50; 2);")
    static void settings_hyst(Check check) {
        range(check, new CaptureSegments(), HYST, 0, 50, 2);
    }

    @Sentence("LOW (-100 to 100; -20)")
    static void settings_low(Check check) {
        CaptureSegments x = new CaptureSegments();
        check.due("-101", x.set(LOW, -101), BAD_VALUE);
        check.due("101", x.set(LOW, 101), BAD_VALUE);
        check.due("the lowest int", x.set(LOW, LOWEST), BAD_VALUE);
        check.due("the highest int", x.set(LOW, HIGHEST), BAD_VALUE);
        check.due("-100", x.set(LOW, -100), 980);
        check.due("100 is in the range, but HIGH is not above it", x.set(LOW, 100), NOT_POSSIBLE);
        check.due("is -100", x.count(13), 900);
    }

    @Sentence("and HIGH (-100 to 100; 20),")
    static void settings_high(Check check) {
        CaptureSegments x = new CaptureSegments();
        check.due("-101", x.set(HIGH, -101), BAD_VALUE);
        check.due("101", x.set(HIGH, 101), BAD_VALUE);
        check.due("the lowest int", x.set(HIGH, LOWEST), BAD_VALUE);
        check.due("the highest int", x.set(HIGH, HIGHEST), BAD_VALUE);
        check.due("100", x.set(HIGH, 100), 1020);
        check.due("-100 is in the range, but LOW is not below it", x.set(HIGH, -100), NOT_POSSIBLE);
        check.due("is 100", x.count(14), 1100);
    }

    @Sentence("LOW below HIGH;")
    static void settings_lowBelowHigh(Check check) {
        CaptureSegments x = new CaptureSegments();
        check.due("LOW one below HIGH", x.set(LOW, 19), 980);
        check.due("LOW at HIGH", x.set(LOW, 20), NOT_POSSIBLE);
        check.due("HIGH at LOW", x.set(HIGH, 19), NOT_POSSIBLE);
        check.due("HIGH as it is, one above LOW", x.set(HIGH, 20), 1020);
        check.due("the greatest HIGH", x.set(HIGH, 100), 1020);
        check.due("the greatest LOW there can be", x.set(LOW, 99), 1019);
        check.due("the least LOW", x.set(LOW, -100), 1099);
        check.due("the least HIGH there can be", x.set(HIGH, -99), 1100);
    }

    @Sentence("DEPTH (1 to 32; 8): samples of a segment;")
    static void settings_depth(Check check) {
        range(check, with(PRE, 0), DEPTH, 1, 32, 8);
        CaptureSegments x = with(PRE, 0, HOLD, 0, DEPTH, 1);
        feedAll(x, -99, 1);
        check.due("one sample", x.sampleOf(0, 0), 1001);
        check.due("no more", x.sampleOf(0, 1), NO_SUCH);
        x.set(DEPTH, 32);
        x.feed(-99, 1);
        check.due("31 samples do not complete it", x.feed(5, 31), 0);
        check.due("32 do", x.feed(5, 1), 1);
        check.due("the last one", x.sampleOf(1, 31), 1005);
        check.due("no more", x.sampleOf(1, 32), NO_SUCH);
    }

    @Sentence("PRE (0 to 31; 2): those ahead of its trigger,")
    static void settings_pre(Check check) {
        range(check, with(DEPTH, 32), PRE, 0, 31, 2);
        for (int pre : new int[] {0, 1, 30, 31}) {
            CaptureSegments x = with(DEPTH, 32, PRE, pre, HOLD, 0);
            x.feed(-99, 40);
            x.feed(7, 32 - pre);
            check.due("the trigger with PRE " + pre, x.sampleOf(0, pre), 1007);
            check.due("the one ahead of it with PRE " + pre, x.sampleOf(0, pre - 1), pre == 0 ? NO_SUCH : 901);
        }
    }

    @Sentence("less than DEPTH;")
    static void settings_preLessThanDepth(Check check) {
        CaptureSegments x = new CaptureSegments();
        check.due("PRE one less than DEPTH", x.set(PRE, 7), 1002);
        check.due("PRE at DEPTH", x.set(PRE, 8), NOT_POSSIBLE);
        check.due("DEPTH at PRE", x.set(DEPTH, 7), NOT_POSSIBLE);
        check.due("the greatest DEPTH", x.set(DEPTH, 32), 1008);
        check.due("the greatest PRE", x.set(PRE, 31), 1007);
        check.due("DEPTH at it", x.set(DEPTH, 31), NOT_POSSIBLE);
        check.due("the least PRE", x.set(PRE, 0), 1031);
        check.due("the least DEPTH", x.set(DEPTH, 1), 1032);
        check.due("PRE at it", x.set(PRE, 1), NOT_POSSIBLE);
    }

    @Sentence("HOLD (0 to 60; 4);")
    static void settings_hold(Check check) {
        range(check, new CaptureSegments(), HOLD, 0, 60, 4);
    }

    @Sentence("KEEP (1 to 6; 4): segments that are kept;")
    static void settings_keep(Check check) {
        range(check, new CaptureSegments(), KEEP, 1, 6, 4);
        CaptureSegments x = bare();
        keep(x, 5);
        check.due("4 at first", x.count(1), 4);
        x = bare(KEEP, 1);
        keep(x, 2);
        check.due("1 at the least", x.count(1), 1);
        x = bare(KEEP, 6);
        keep(x, 7);
        check.due("6 at the most", x.count(1), 6);
    }

    @Sentence("OVER (0 or 1; 0): whether they are written over.")
    static void settings_over(Check check) {
        range(check, new CaptureSegments(), OVER, 0, 1, 0);
        CaptureSegments x = bare(KEEP, 1);
        keep(x, 2);
        check.due("0: the first one stays", x.sampleOf(0, 0), 1001);
        x = bare(KEEP, 1, OVER, 1);
        keep(x, 2);
        check.due("1: it is written over", x.sampleOf(0, 0), 1002);
    }

    // ---- samples

    @Sentence("Up to 400 samples come, numbered from 0;")
    static void settings_upTo400Samples(Check check) {
        CaptureSegments x = new CaptureSegments();
        x.feed(1, 1);
        fill(x, 398);
        check.due("the last one of 400", x.feed(2, 1), 0);
        check.due("one more", x.feed(3, 1), TOO_MANY);
        check.due("400", x.count(0), 400);
        check.due("the first one", x.sample(0), 1001);
        check.due("the last one", x.sample(399), 1002);
        check.due("none behind it", x.sample(400), NO_SUCH);
    }

    @Sentence("each is from -100 to 100.")
    static void settings_samplesFromMinus100To100(Check check) {
        CaptureSegments x = new CaptureSegments();
        check.due("-101", x.feed(-101, 1), BAD_VALUE);
        check.due("101", x.feed(101, 1), BAD_VALUE);
        check.due("-100", x.feed(-100, 1), 0);
        check.due("100", x.feed(100, 1), 0);
        check.due("two came", x.count(0), 2);
        check.due("-100", x.sample(0), 900);
        check.due("100", x.sample(1), 1100);
    }

    // ---- detector

    @Sentence("With each one the detector is (0) off, (1) armed, or (2) inside;")
    static void settings_detectorStates(Check check) {
        CaptureSegments x = with(KIND, RUNTS);
        x.feed(99, 1);
        check.due("off", x.count(3), 0);
        x.feed(-99, 1);
        check.due("armed", x.count(3), 1);
        x.feed(0, 1);
        check.due("inside", x.count(3), 2);
    }

    @Sentence("off at first,")
    static void settings_detectorOffAtFirst(Check check) {
        for (int kind = RISES; kind <= RUNTS; kind++) {
            CaptureSegments x = bare();
            check.due("new", x.count(3), 0);
            x = bare(KIND, kind);
            x.feed(kind == RISES ? 100 : -100, 1);
            check.due("the first sample does not fire, kind " + kind, x.count(4), 0);
        }
    }

    @Sentence("and whenever KIND, LEVEL, HYST, LOW or HIGH is set.")
    static void settings_detectorOffWhenSet(Check check) {
        int[] first = {2, 0, 2, -20, 20, 8, 2, 4, 4, 0};
        for (int setting = KIND; setting <= OVER; setting++) {
            for (int before = 1; before <= 2; before++) {
                CaptureSegments x = with(KIND, RUNTS);
                feedAll(x, -50);
                if (before == 2) {
                    feedAll(x, 0);
                }
                x.set(setting, 101);
                check.due("a refused set(" + setting + ", 101)", x.count(3), before);
                check.due("set(" + setting + ", the same)", x.set(setting, first[setting]), first[setting] + 1000);
                check.due("the detector behind set(" + setting + ", the same)", x.count(3), setting <= HIGH ? 0 : before);
            }
        }
        CaptureSegments x = new CaptureSegments();
        x.feed(-50, 1);
        check.due("LOW at HIGH", x.set(LOW, 20), NOT_POSSIBLE);
        check.due("leaves it armed", x.count(3), 1);
    }

    @Sentence("- RISES: if the detector is armed, and v is at least LEVEL, it fires, and is off;")
    static void settings_risesFiresAtLevel(Check check) {
        CaptureSegments x = bare(LEVEL, 10, HYST, 3);
        feedAll(x, 10);
        check.counts("not armed: does not fire", x, 3, 0, 0);
        feedAll(x, -50, 9);
        check.counts("armed, below LEVEL: does not fire", x, 3, 1, 0);
        feedAll(x, 10);
        check.counts("armed, at LEVEL: fires, and is off", x, 3, 0, 1);
        feedAll(x, 10, 100);
        check.counts("off: does not fire again", x, 3, 0, 1);
        x = bare(LEVEL, 100);
        feedAll(x, -50, 99, 100);
        check.due("fires at the greatest level", x.count(4), 1);
    }

    @Sentence("otherwise, if v is below LEVEL less HYST, it is armed.")
    static void settings_risesArmedBelowLevelLessHyst(Check check) {
        CaptureSegments x = bare(LEVEL, 10, HYST, 3);
        feedAll(x, 7);
        check.due("at LEVEL less HYST", x.count(3), 0);
        feedAll(x, 6);
        check.due("one below it", x.count(3), 1);
        feedAll(x, 7, 9);
        check.due("stays armed", x.count(3), 1);
        x = bare(LEVEL, -50, HYST, 50);
        feedAll(x, -100);
        check.due("nothing is below -100", x.count(3), 0);
        x = bare(LEVEL, -49, HYST, 50);
        feedAll(x, -100);
        check.due("-100 is below -99", x.count(3), 1);
        x = bare(HYST, 0);
        feedAll(x, 0);
        check.due("without hysteresis, at LEVEL", x.count(3), 0);
        feedAll(x, -1);
        check.due("without hysteresis, one below it", x.count(3), 1);
    }

    @Sentence("- FALLS: if it is armed, and v is at most LEVEL, it fires, and is off;")
    static void settings_fallsFiresAtLevel(Check check) {
        CaptureSegments x = bare(KIND, FALLS, LEVEL, 10, HYST, 3);
        feedAll(x, 10);
        check.counts("not armed: does not fire", x, 3, 0, 0);
        feedAll(x, 50, 11);
        check.counts("armed, above LEVEL: does not fire", x, 3, 1, 0);
        feedAll(x, 10);
        check.counts("armed, at LEVEL: fires, and is off", x, 3, 0, 1);
        feedAll(x, 10, -100);
        check.counts("off: does not fire again", x, 3, 0, 1);
        x = bare(KIND, FALLS, LEVEL, -100);
        feedAll(x, 50, -99, -100);
        check.due("fires at the least level", x.count(4), 1);
    }

    @Sentence("otherwise, if v is above LEVEL and HYST together, it is armed.")
    static void settings_fallsArmedAboveLevelAndHyst(Check check) {
        CaptureSegments x = bare(KIND, FALLS, LEVEL, 10, HYST, 3);
        feedAll(x, 13);
        check.due("at LEVEL and HYST", x.count(3), 0);
        feedAll(x, 14);
        check.due("one above", x.count(3), 1);
        feedAll(x, 13, 11);
        check.due("stays armed", x.count(3), 1);
        x = bare(KIND, FALLS, LEVEL, 50, HYST, 50);
        feedAll(x, 100);
        check.due("nothing is above 100", x.count(3), 0);
        x = bare(KIND, FALLS, LEVEL, 49, HYST, 50);
        feedAll(x, 100);
        check.due("100 is above 99", x.count(3), 1);
        x = bare(KIND, FALLS, HYST, 0);
        feedAll(x, 0);
        check.due("without hysteresis, at LEVEL", x.count(3), 0);
        feedAll(x, 1);
        check.due("without hysteresis, one above it", x.count(3), 1);
    }

    @Sentence("- RUNTS: if v is below LOW: it fires, if it was inside; it is armed then in any case.")
    static void settings_runtsBelowLow(Check check) {
        CaptureSegments x = bare(KIND, RUNTS, LOW, -10, HIGH, 10);
        feedAll(x, -10);
        check.counts("off, at LOW: off", x, 3, 0, 0);
        feedAll(x, -11);
        check.counts("off, below LOW: armed, and does not fire", x, 3, 1, 0);
        feedAll(x, -100);
        check.counts("armed, below LOW: armed, and does not fire", x, 3, 1, 0);
        feedAll(x, 0, -10);
        check.counts("inside, at LOW: does not fire", x, 3, 2, 0);
        feedAll(x, -11);
        check.counts("inside, below LOW: fires, and is armed", x, 3, 1, 1);
        feedAll(x, -11);
        check.counts("armed, below LOW: does not fire again", x, 3, 1, 1);
        feedAll(x, -10, -11);
        check.counts("armed by its firing, inside, below LOW: fires", x, 3, 1, 2);
        x = bare(KIND, RUNTS, LOW, -100);
        feedAll(x, -100, 0, -100);
        check.counts("nothing is below -100", x, 3, 0, 0);
    }

    @Sentence("Otherwise, if v is at least HIGH, it is off.")
    static void settings_runtsAtHigh(Check check) {
        CaptureSegments x = bare(KIND, RUNTS, LOW, -10, HIGH, 10);
        feedAll(x, -11, 9);
        check.due("one below HIGH: not off", x.count(3), 2);
        feedAll(x, 10);
        check.due("inside, at HIGH: off", x.count(3), 0);
        feedAll(x, 9, -11);
        check.counts("it was no runt", x, 3, 1, 0);
        feedAll(x, 10);
        check.due("armed, at HIGH: off", x.count(3), 0);
        x = bare(KIND, RUNTS, HIGH, 100);
        feedAll(x, -50, 99);
        check.due("99 is below 100", x.count(3), 2);
        feedAll(x, 100);
        check.due("100 is not", x.count(3), 0);
        x = bare(KIND, RUNTS, LOW, -100, HIGH, -99);
        feedAll(x, -100);
        check.due("between LOW and HIGH, but never armed", x.count(3), 0);
    }

    @Sentence("Otherwise it is inside, if it was armed or inside.")
    static void settings_runtsInside(Check check) {
        CaptureSegments x = bare(KIND, RUNTS, LOW, 9, HIGH, 10);
        feedAll(x, 9);
        check.due("off: stays off", x.count(3), 0);
        feedAll(x, 8, 9);
        check.due("armed: inside, the one value between LOW and HIGH", x.count(3), 2);
        feedAll(x, 9);
        check.due("inside: stays inside", x.count(3), 2);
        feedAll(x, 10, 9);
        check.due("off again: stays off", x.count(3), 0);
    }
}
