/** Promises 1 to 5 of the document: a new object, set, feed, clear and drop. */
public final class BoundaryChangesTest extends Scopes {
    private static final int[] NO_SEGMENT = {-1, 4, 5, 6, LOWEST, HIGHEST, 1 << 30, 1 << 31 | 1};

    public static void main(String[] args) {
        Boundaries.main(BoundaryChangesTest.class);
    }

    // ---- 1

    @Sentence("Creates an empty memory.")
    static void p01_empty(Check check) {
        CaptureSegments x = new CaptureSegments();
        check.counts("new", x, 0, 0, 0, 0, 0, 0, 0, 0, 0, 0, 0);
        check.counts("new", x, 20, 0, 0);
        check.due("no sample", x.sample(0), NO_SUCH);
        check.due("no segment", x.segment(0, 0), NO_SUCH);
        check.due("nothing to undo", x.undo(), NOT_POSSIBLE);
        check.due("nothing in slot 0", x.restore(0), NOT_POSSIBLE);
        check.due("nothing in slot 1", x.restore(1), NOT_POSSIBLE);
        check.due("nothing fires", x.bestLevel(1), 0);
        check.due("no text", x.wipe(), 0);
        x.set(LEVEL, 9);
        x.feed(1, 1);
        x.save(0);
        CaptureSegments other = new CaptureSegments();
        check.due("another one: its level", other.count(11), 1000);
        check.due("another one: its samples", other.count(0), 0);
        check.due("another one: its slots", other.restore(0), NOT_POSSIBLE);
    }

    // ---- 2

    @Sentence("Changes a setting.")
    static void p02_changesThatSettingAlone(Check check) {
        int[] other = {1, 7, 9, -50, 60, 20, 5, 11, 3, 1};
        int[] first = {0, 0, 2, -20, 20, 8, 2, 4, 4, 0};
        for (int setting = KIND; setting <= OVER; setting++) {
            CaptureSegments x = with(setting, other[setting]);
            for (int each = KIND; each <= OVER; each++) {
                int want = each == setting ? other[each] : first[each];
                check.due("count(" + (10 + each) + ") behind set(" + setting + ", ..)", x.count(10 + each), want + 1000);
            }
        }
    }

    @Sentence("This is a change.")
    static void p02_isAChange(Check check) {
        CaptureSegments x = new CaptureSegments();
        x.set(LEVEL, 5);
        check.due("one to undo", x.count(21), 1);
        x.set(LEVEL, 5);
        check.due("also if it is what it was", x.count(21), 2);
        x.set(LEVEL, 101);
        x.set(LOW, 99);
        check.due("not if it is refused", x.count(21), 2);
        x.undo();
        x.undo();
        check.due("undone", x.count(11), 1000);
    }

    @Sentence("Returns the previous value, and 1000 more;")
    static void p02_previousValue(Check check) {
        CaptureSegments x = new CaptureSegments();
        check.due("0 at first", x.set(LEVEL, -100), 1000);
        check.due("the least", x.set(LEVEL, 100), 900);
        check.due("the greatest", x.set(LEVEL, 101), BAD_VALUE);
        check.due("not one that was refused", x.set(LEVEL, -1), 1100);
        check.due("-1 is no error", x.set(LEVEL, -1), 999);
        check.due("as it is", x.set(LEVEL, -1), 999);
        x.undo();
        x.undo();
        x.undo();
        check.due("undone", x.set(LEVEL, 3), 1100);
    }

    @Sentence("BAD_VALUE if there is no such setting,")
    static void p02_noSuchSetting(Check check) {
        CaptureSegments x = new CaptureSegments();
        for (int none : new int[] {-1, 10, 11, LOWEST, HIGHEST}) {
            check.due("set(" + none + ", 0)", x.set(none, 0), BAD_VALUE);
            check.due("set(" + none + ", 1)", x.set(none, 1), BAD_VALUE);
        }
        check.due("the first one", x.set(0, 0), 1000);
        check.due("the last one", x.set(9, 0), 1000);
    }

    @Sentence("or the value is out of its range;")
    static void p02_outOfItsRange(Check check) {
        int[] least = {0, -100, 0, -100, -100, 1, 0, 0, 1, 0};
        int[] greatest = {2, 100, 50, 100, 100, 32, 31, 60, 6, 1};
        CaptureSegments x = new CaptureSegments();
        for (int setting = KIND; setting <= OVER; setting++) {
            for (int value : new int[] {least[setting] - 1, greatest[setting] + 1, LOWEST, HIGHEST}) {
                check.due("set(" + setting + ", " + value + ")", x.set(setting, value), BAD_VALUE);
            }
        }
        check.due("nothing was recorded", x.count(21), 0);
    }

    @Sentence("NOT_POSSIBLE if LOW would not be below HIGH,")
    static void p02_lowNotBelowHigh(Check check) {
        for (int kind = RISES; kind <= RUNTS; kind++) {
            CaptureSegments x = with(KIND, kind);
            check.due("LOW at HIGH", x.set(LOW, 20), NOT_POSSIBLE);
            check.due("LOW above HIGH", x.set(LOW, 100), NOT_POSSIBLE);
            check.due("HIGH at LOW", x.set(HIGH, -20), NOT_POSSIBLE);
            check.due("HIGH below LOW", x.set(HIGH, -100), NOT_POSSIBLE);
            check.due("LOW one below HIGH", x.set(LOW, 19), 980);
            check.due("LOW is that", x.set(LOW, -20), 1019);
            check.due("HIGH one above LOW", x.set(HIGH, -19), 1020);
        }
    }

    @Sentence("PRE not less than DEPTH,")
    static void p02_preNotLessThanDepth(Check check) {
        CaptureSegments x = new CaptureSegments();
        check.due("PRE at DEPTH", x.set(PRE, 8), NOT_POSSIBLE);
        check.due("PRE above DEPTH", x.set(PRE, 31), NOT_POSSIBLE);
        check.due("DEPTH at PRE", x.set(DEPTH, 2), NOT_POSSIBLE);
        check.due("DEPTH below PRE", x.set(DEPTH, 1), NOT_POSSIBLE);
        check.due("DEPTH one above PRE", x.set(DEPTH, 3), 1008);
        check.due("PRE one below DEPTH", x.set(PRE, 2), 1002);
    }

    @Sentence("or DEPTH or PRE is set while a segment is being captured.")
    static void p02_depthOrPreWhileCaptured(Check check) {
        CaptureSegments x = with(HOLD, 0, PRE, 0, DEPTH, 2);
        feedAll(x, -9, 9);
        check.due("captures", x.count(2), 3);
        check.due("DEPTH", x.set(DEPTH, 3), NOT_POSSIBLE);
        check.due("PRE", x.set(PRE, 1), NOT_POSSIBLE);
        check.due("DEPTH as it is", x.set(DEPTH, 2), NOT_POSSIBLE);
        check.due("PRE as it is", x.set(PRE, 0), NOT_POSSIBLE);
        int[] values = {0, 0, 2, -20, 20};
        for (int setting = KIND; setting <= HIGH; setting++) {
            check.due("set(" + setting + ", ..) is possible", x.set(setting, values[setting]), values[setting] + 1000);
        }
        check.due("HOLD is possible", x.set(HOLD, 60), 1000);
        check.due("KEEP is possible", x.set(KEEP, 1), 1004);
        check.due("OVER is possible", x.set(OVER, 1), 1000);
        check.due("it becomes complete all the same", x.feed(9, 1), 1);
        check.due("DEPTH then", x.set(DEPTH, 3), 1002);
        check.due("PRE then", x.set(PRE, 1), 1000);
    }

    // ---- 3

    @Sentence("A sample comes, some times one behind the other.")
    static void p03_someTimes(Check check) {
        CaptureSegments x = new CaptureSegments();
        x.feed(5, 1);
        check.due("once", x.count(0), 1);
        x.feed(-6, 100);
        check.due("a hundred times more", x.count(0), 101);
        check.due("the first one", x.sample(0), 1005);
        check.due("the first one of the hundred", x.sample(1), 994);
        check.due("the last one of the hundred", x.sample(100), 994);
        check.due("no more", x.sample(101), NO_SUCH);
        // One behind the other: the first one fires, and the others are behind a trigger.
        x = with(PRE, 0, DEPTH, 3, HOLD, 0, HYST, 0);
        feedAll(x, -1);
        x.feed(0, 4);
        check.counts("four: a trigger, two more, and one behind the segment", x, 4, 1, 1, 0, 1, 1, 0);
    }

    @Sentence("This is a change.")
    static void p03_isAChange(Check check) {
        CaptureSegments x = new CaptureSegments();
        x.feed(5, 100);
        check.due("one, with all of its samples", x.count(21), 1);
        x.feed(5, 1);
        x.feed(101, 1);
        x.feed(5, 0);
        check.due("none if it is refused", x.count(21), 2);
        x.undo();
        check.due("one sample is undone", x.count(0), 100);
        x.undo();
        check.due("a hundred are undone", x.count(0), 0);
    }

    @Sentence("`value`: -100 to 100")
    static void p03_value(Check check) {
        CaptureSegments x = new CaptureSegments();
        for (int bad : new int[] {-101, 101, -1000, 1000, LOWEST, HIGHEST}) {
            check.due("feed(" + bad + ", 1)", x.feed(bad, 1), BAD_VALUE);
        }
        check.due("none came", x.count(0), 0);
        check.due("feed(-100, 1)", x.feed(-100, 1), 0);
        check.due("feed(100, 1)", x.feed(100, 1), 0);
    }

    @Sentence("`times`: 1 to 100")
    static void p03_times(Check check) {
        CaptureSegments x = new CaptureSegments();
        for (int bad : new int[] {0, -1, 101, 400, LOWEST, HIGHEST}) {
            check.due("feed(0, " + bad + ")", x.feed(0, bad), BAD_VALUE);
        }
        check.due("none came", x.count(0), 0);
        check.due("feed(0, 1)", x.feed(0, 1), 0);
        check.due("feed(0, 100)", x.feed(0, 100), 0);
        check.due("all came", x.count(0), 101);
    }

    @Sentence("Returns how many segments become complete by that;")
    static void p03_howManyBecomeComplete(Check check) {
        CaptureSegments x = with(PRE, 0, DEPTH, 4, HOLD, 0);
        check.due("none: no trigger", x.feed(-9, 1), 0);
        check.due("none: one sample is missing", x.feed(9, 3), 0);
        check.due("one: its last sample", x.feed(9, 1), 1);
        check.due("none: it was complete before", x.feed(9, 1), 0);
        x.feed(-9, 1);
        check.due("one: all of it, just so many", x.feed(9, 4), 1);
        x.feed(-9, 1);
        check.due("one: all of it, and more", x.feed(9, 100), 1);
        x = bare();
        x.feed(-9, 1);
        check.due("one: complete with its trigger", x.feed(9, 1), 1);
        x.set(KEEP, 1);
        x.feed(-9, 1);
        check.due("none: no room", x.feed(9, 1), 0);
        x.set(OVER, 1);
        x.feed(-9, 1);
        check.due("one: also if another one goes for it", x.feed(9, 1), 1);
    }

    @Sentence("BAD_VALUE if an argument is out of range;")
    static void p03_badValue(Check check) {
        CaptureSegments x = new CaptureSegments();
        check.due("both", x.feed(LOWEST, LOWEST), BAD_VALUE);
        check.due("both", x.feed(HIGHEST, HIGHEST), BAD_VALUE);
        check.due("the first one alone", x.feed(101, 1), BAD_VALUE);
        check.due("the second one alone", x.feed(1, 101), BAD_VALUE);
        check.counts("nothing came", x, 0, 0, 0, 0, 0, 0, 0, 0, 0, 0, 0);
    }

    @Sentence("TOO_MANY if there would be more than 400 samples.")
    static void p03_tooMany(Check check) {
        CaptureSegments x = new CaptureSegments();
        fill(x, 301);
        check.due("401", x.feed(1, 100), TOO_MANY);
        check.due("none of them came", x.count(0), 301);
        check.due("400", x.feed(1, 99), 0);
        check.due("400", x.count(0), 400);
        check.due("401", x.feed(1, 1), TOO_MANY);
        check.due("500", x.feed(1, 100), TOO_MANY);
        check.due("the last one stays", x.sample(399), 1001);
        x.undo();
        check.due("undone: there is room again", x.feed(2, 99), 0);
        x.clear();
        check.due("cleared: there is room again", x.feed(3, 100), 0);
        x = bare();
        fill(x, 399);
        x.set(LEVEL, 5);
        check.due("one that would complete a segment fits", x.feed(-99, 1), 0);
        check.due("one more does not", x.feed(99, 1), TOO_MANY);
        check.counts("the detector has not seen it", x, 3, 1, 0);
    }

    // ---- 4

    @Sentence("Forgets all samples and segments,")
    static void p04_forgetsSamplesAndSegments(Check check) {
        CaptureSegments x = bare(KEEP, 6);
        keep(x, 6);
        fill(x, 388);
        x.clear();
        check.due("no sample", x.count(0), 0);
        check.due("no first one", x.sample(0), NO_SUCH);
        check.due("no last one", x.sample(399), NO_SUCH);
        check.due("no segment", x.count(1), 0);
        check.due("no first one", x.segment(0, 0), NO_SUCH);
        check.due("no last one", x.segment(5, 0), NO_SUCH);
        check.due("nothing fires", x.fires(0), 0);
        keep(x, 1);
        check.due("numbered from 0 again", x.segment(0, 0), 1);
    }

    @Sentence("also one that is being captured")
    static void p04_forgetsACapturedOne(Check check) {
        CaptureSegments x = with(PRE, 0, HOLD, 0, DEPTH, 3);
        feedAll(x, -9, 9);
        check.due("captures", x.count(9), 2);
        x.clear();
        check.due("nothing has yet to come", x.count(9), 0);
        check.due("ready", x.count(2), 1);
        check.due("nothing becomes complete", x.feed(9, 100), 0);
        check.due("DEPTH can be set", x.set(DEPTH, 4), 1003);
    }

    @Sentence("(settings, and what is counted so far, stay; count(8) is 0);")
    static void p04_whatStays(Check check) {
        CaptureSegments x = with(PRE, 0, HOLD, 1, DEPTH, 2, LEVEL, 3, HYST, 1, LOW, -5, HIGH, 6, KEEP, 2);
        feedAll(x, -9, 9, 9, -9, 9, 8, -9, 9, 0, 0);
        check.counts("ahead", x, 0, 10, 2, 2, 1, 3, 2, 1, 2, 4, 0);
        x.clear();
        check.counts("behind", x, 0, 0, 0, 0, 0, 3, 2, 1, 2, 0, 0);
        check.counts("settings", x, 10, 1000, 1003, 1001, 995, 1006, 1002, 1000, 1001, 1002, 1000);
    }

    @Sentence("the detector is off.")
    static void p04_detectorOff(Check check) {
        CaptureSegments x = bare();
        x.feed(-9, 1);
        check.due("armed", x.count(3), 1);
        x.clear();
        check.due("off", x.count(3), 0);
        x.feed(9, 1);
        check.due("it does not fire", x.count(4), 0);
        x = bare(KIND, RUNTS);
        feedAll(x, -99, 0);
        check.due("inside", x.count(3), 2);
        x.clear();
        check.due("off", x.count(3), 0);
        x.feed(-99, 1);
        check.due("it does not fire", x.count(4), 0);
    }

    @Sentence("This is a change.")
    static void p04_isAChange(Check check) {
        CaptureSegments x = bare();
        keep(x, 1);
        int undoable = x.count(21);
        x.clear();
        check.due("records", x.count(21), undoable + 1);
        x.undo();
        check.due("samples are back", x.sample(1), 1001);
        check.due("segments are back", x.sampleOf(0, 0), 1001);
        x = new CaptureSegments();
        x.clear();
        check.due("also if there is nothing to forget", x.count(21), 1);
    }

    @Sentence("Returns how many segments were kept.")
    static void p04_howManyWereKept(Check check) {
        for (int kept = 0; kept <= 6; kept++) {
            CaptureSegments x = bare(KEEP, 6);
            keep(x, kept);
            check.due("clear() of " + kept, x.clear(), kept);
            check.due("clear() again", x.clear(), 0);
        }
        CaptureSegments x = with(PRE, 0, HOLD, 0);
        feedAll(x, -9, 9);
        check.due("one that is being captured is not kept", x.clear(), 0);
    }

    // ---- 5

    @Sentence("Drops a segment that is kept.")
    static void p05_drops(Check check) {
        for (int dropped = 0; dropped < 6; dropped++) {
            CaptureSegments x = bare(KEEP, 6);
            keep(x, 6);
            x.drop(dropped);
            for (int segment = 0; segment < 5; segment++) {
                check.due("drop(" + dropped + "), then segment " + segment, x.sampleOf(segment, 0),
                    1001 + segment + (segment >= dropped ? 1 : 0));
            }
            check.due("drop(" + dropped + "), then no segment 5", x.sampleOf(5, 0), NO_SUCH);
            check.due("samples stay", x.count(0), 12);
            check.counts("what is counted stays", x, 4, 6, 6, 0, 6, 0);
        }
    }

    @Sentence("This is a change.")
    static void p05_isAChange(Check check) {
        CaptureSegments x = bare();
        keep(x, 1);
        int undoable = x.count(21);
        x.drop(1);
        x.drop(-1);
        check.due("not if it is refused", x.count(21), undoable);
        x.drop(0);
        check.due("records", x.count(21), undoable + 1);
        x.undo();
        check.due("it is back", x.sampleOf(0, 0), 1001);
    }

    @Sentence("Returns how many are kept then;")
    static void p05_howManyAreKept(Check check) {
        CaptureSegments x = bare(KEEP, 6);
        keep(x, 6);
        for (int left = 5; left >= 0; left--) {
            check.due("drop(0)", x.drop(0), left);
        }
    }

    @Sentence("NO_SUCH if there is no such segment.")
    static void p05_noSuchSegment(Check check) {
        CaptureSegments x = bare();
        check.due("none is kept", x.drop(0), NO_SUCH);
        keep(x, 4);
        for (int none : NO_SEGMENT) {
            check.due("drop(" + none + ") of four", x.drop(none), NO_SUCH);
        }
        check.due("the last one", x.drop(3), 3);
        check.due("it is gone", x.drop(3), NO_SUCH);
        x.drop(0);
        x.drop(0);
        x.drop(0);
        check.due("all are gone", x.drop(0), NO_SUCH);
        x = with(PRE, 0, HOLD, 0);
        feedAll(x, -9, 9);
        check.due("one that is being captured is not kept", x.drop(0), NO_SUCH);
    }
}
