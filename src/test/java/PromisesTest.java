/** For each promise of the document: ordinary inputs, the edges that it names, and wrong inputs, errors in its order. */
public final class PromisesTest extends Scopes {
    private static final Check CHECK = new Check();
    private static final int[] LEAST = {0, -100, 0, -100, -100, 1, 0, 0, 1, 0};
    private static final int[] GREATEST = {2, 100, 50, 100, 100, 32, 31, 60, 6, 1};
    private static final int[] FIRST = {0, 0, 2, -20, 20, 8, 2, 4, 4, 0};

    public static void main(String[] args) {
        newObject();
        setRanges();
        setPossible();
        setDetectorAndKeep();
        feed();
        rises();
        falls();
        runts();
        triggers();
        holdAndPre();
        roomAndOver();
        clear();
        drop();
        segment();
        segmentPlaces();
        sampleOf();
        sample();
        count();
        fires();
        bestLevel();
        unlike();
        nearest();
        put();
        wipe();
        fault();
        carryOut();
        carryOutErrors();
        undo();
        save();
        restore();
        restoreCaptured();
        CHECK.end("PromisesTest");
    }

    private static void due(String call, long got, long want) {
        CHECK.due(call, got, want);
    }

    private static void counts(String when, CaptureSegments x, int from, int... wants) {
        CHECK.counts(when, x, from, wants);
    }

    private static void faultOf(String text, int want) {
        CaptureSegments x = new CaptureSegments();
        putText(x, text);
        due("fault() of " + text, x.fault(), want);
        due("the model's fault of " + text, Model.faultOf(text), want);
        due("the pad with " + text, x.count(20), text.length());
        if (want != NONE) {
            due("carryOut() of " + text, x.carryOut(), BAD_TEXT);
            due("the pad behind carryOut() of " + text, x.count(20), text.length());
            due("nothing to undo behind " + text, x.count(21), 0);
        }
    }

    private static void runText(CaptureSegments x, String text, int want) {
        putText(x, text);
        due("carryOut() of " + text, x.carryOut(), want);
        due("the pad behind " + text, x.count(20), 0);
    }

    private static void newObject() { // 1
        CaptureSegments x = new CaptureSegments();
        counts("new", x, 0, 0, 0, 0, 0, 0, 0, 0, 0, 0, 0);
        counts("new", x, 10, 1000, 1000, 1002, 980, 1020, 1008, 1002, 1004, 1004, 1000, 0, 0);
        due("new: undo()", x.undo(), NOT_POSSIBLE);
        due("new: restore(0)", x.restore(0), NOT_POSSIBLE);
        due("new: restore(1)", x.restore(1), NOT_POSSIBLE);
        due("new: sample(0)", x.sample(0), NO_SUCH);
        due("new: segment(0, 0)", x.segment(0, 0), NO_SUCH);
        CaptureSegments other = new CaptureSegments();
        other.set(LEVEL, 7);
        other.feed(3, 9);
        due("objects share nothing: level", x.count(11), 1000);
        due("objects share nothing: samples", x.count(0), 0);
    }

    private static void setRanges() { // 2
        for (int setting = KIND; setting <= OVER; setting++) {
            CaptureSegments x = with();
            if (setting == DEPTH) {
                x.set(PRE, 0);
            }
            if (setting == PRE) {
                x.set(DEPTH, 32);
            }
            if (setting == LOW) {
                x.set(HIGH, 100);
            }
            if (setting == HIGH) {
                x.set(LOW, -100);
            }
            int least = setting == HIGH ? -99 : LEAST[setting];
            int greatest = setting == LOW ? 99 : GREATEST[setting];
            int undoable = x.count(21);
            String name = "set(" + setting + ", ..)";
            due(name + " too low", x.set(setting, LEAST[setting] - 1), BAD_VALUE);
            due(name + " too high", x.set(setting, GREATEST[setting] + 1), BAD_VALUE);
            due(name + " lowest int", x.set(setting, Integer.MIN_VALUE), BAD_VALUE);
            due(name + " highest int", x.set(setting, Integer.MAX_VALUE), BAD_VALUE);
            due(name + " stays", x.count(10 + setting), FIRST[setting] + 1000);
            due(name + " records no error", x.count(21), undoable);
            due(name + " least", x.set(setting, least), FIRST[setting] + 1000);
            due(name + " is least", x.count(10 + setting), least + 1000);
            due(name + " greatest", x.set(setting, greatest), least + 1000);
            due(name + " is greatest", x.count(10 + setting), greatest + 1000);
            due(name + " again", x.set(setting, greatest), greatest + 1000);
            due(name + " records", x.count(21), undoable + 3);
        }
        CaptureSegments x = new CaptureSegments();
        for (int none : new int[] {-1, 10, 11, Integer.MIN_VALUE, Integer.MAX_VALUE}) {
            due("set(" + none + ", 0)", x.set(none, 0), BAD_VALUE);
        }
    }

    private static void setPossible() { // 2
        CaptureSegments x = new CaptureSegments();
        due("LOW at HIGH", x.set(LOW, 20), NOT_POSSIBLE);
        due("LOW above HIGH", x.set(LOW, 100), NOT_POSSIBLE);
        due("LOW out of range, above HIGH", x.set(LOW, 101), BAD_VALUE);
        due("LOW below HIGH", x.set(LOW, 19), 980);
        due("HIGH at LOW", x.set(HIGH, 19), NOT_POSSIBLE);
        due("HIGH below LOW", x.set(HIGH, -100), NOT_POSSIBLE);
        due("HIGH out of range, below LOW", x.set(HIGH, -101), BAD_VALUE);
        due("HIGH above LOW", x.set(HIGH, 21), 1020);
        due("PRE at DEPTH", x.set(PRE, 8), NOT_POSSIBLE);
        due("PRE above DEPTH", x.set(PRE, 31), NOT_POSSIBLE);
        due("PRE out of range", x.set(PRE, 32), BAD_VALUE);
        due("PRE below DEPTH", x.set(PRE, 7), 1002);
        due("DEPTH at PRE", x.set(DEPTH, 7), NOT_POSSIBLE);
        due("DEPTH below PRE", x.set(DEPTH, 1), NOT_POSSIBLE);
        due("DEPTH out of range", x.set(DEPTH, 0), BAD_VALUE);
        due("DEPTH above PRE", x.set(DEPTH, 9), 1008);
        due("LEVEL is not bound to LOW and HIGH", x.set(LEVEL, 100), 1000);

        x = with(HOLD, 0, PRE, 0);
        feedAll(x, -3, 0);
        due("captures", x.count(2), 3);
        due("DEPTH while captured", x.set(DEPTH, 9), NOT_POSSIBLE);
        due("DEPTH as it is, while captured", x.set(DEPTH, 8), NOT_POSSIBLE);
        due("PRE while captured", x.set(PRE, 1), NOT_POSSIBLE);
        due("DEPTH out of range while captured", x.set(DEPTH, 33), BAD_VALUE);
        due("PRE out of range while captured", x.set(PRE, -1), BAD_VALUE);
        due("KIND while captured", x.set(KIND, 1), 1000);
        due("HOLD while captured", x.set(HOLD, 9), 1000);
        due("KEEP while captured", x.set(KEEP, 1), 1004);
        due("OVER while captured", x.set(OVER, 1), 1000);
        due("completes", x.feed(0, 7), 1);
        due("its kind is that of its trigger", x.segment(0, 3), 0);
        due("DEPTH then", x.set(DEPTH, 9), 1008);
        due("PRE then", x.set(PRE, 1), 1000);
        due("the segment stays as deep", x.segment(0, 1), 8);
        due("the segment keeps its PRE", x.segment(0, 2), 0);
    }

    private static void setDetectorAndKeep() { // 2
        for (int setting = KIND; setting <= OVER; setting++) {
            CaptureSegments x = new CaptureSegments();
            x.feed(-50, 1);
            due("armed", x.count(3), 1);
            x.set(setting, 101);
            due("an error leaves it armed", x.count(3), 1);
            x.set(setting, FIRST[setting]);
            due("the detector behind set(" + setting + ", ..)", x.count(3), setting <= HIGH ? 0 : 1);
        }
        CaptureSegments x = new CaptureSegments();
        x.feed(-50, 1);
        due("LOW above HIGH", x.set(LOW, 50), NOT_POSSIBLE);
        due("leaves it armed", x.count(3), 1);

        x = bare(KEEP, 6);
        for (int i = 0; i < 6; i++) {
            feedAll(x, -3, i);
        }
        counts("six", x, 0, 12, 6, 2);
        due("KEEP 6 again", x.set(KEEP, 6), 1006);
        due("all stay", x.count(1), 6);
        due("KEEP 4", x.set(KEEP, 4), 1006);
        due("four stay", x.count(1), 4);
        due("the latest ones", x.segment(0, 0), 5);
        due("the latest ones", x.segment(3, 0), 11);
        due("KEEP 6", x.set(KEEP, 6), 1004);
        due("none comes back", x.count(1), 4);
        due("KEEP 1", x.set(KEEP, 1), 1006);
        due("the last one", x.segment(0, 0), 11);
        due("no other", x.segment(1, 0), NO_SUCH);

        // KEEP becomes less while one is captured: it goes in all the same, and the oldest one goes.
        x = with(HOLD, 0, PRE, 0, DEPTH, 2, KEEP, 2);
        feedAll(x, -3, 0, 1, -3, 5);
        counts("one kept, one captured", x, 1, 1, 3);
        x.set(KEEP, 1);
        due("goes in", x.feed(6, 1), 1);
        due("alone", x.count(1), 1);
        due("the new one", x.segment(0, 0), 4);
    }

    private static void feed() { // 3
        CaptureSegments x = new CaptureSegments();
        int[][] bad = {{-101, 1}, {101, 1}, {0, 0}, {0, -1}, {0, 101}, {Integer.MIN_VALUE, 1}, {Integer.MAX_VALUE, 1},
            {0, Integer.MIN_VALUE}, {0, Integer.MAX_VALUE}};
        for (int[] b : bad) {
            due("feed(" + b[0] + ", " + b[1] + ")", x.feed(b[0], b[1]), BAD_VALUE);
        }
        counts("nothing came", x, 0, 0, 0, 0, 0, 0, 0, 0, 0, 0, 0);
        due("no record", x.count(21), 0);
        due("the least", x.feed(-100, 1), 0);
        due("the greatest", x.feed(100, 1), 0);
        due("a hundred", x.feed(3, 100), 0);
        due("came", x.count(0), 102);
        due("records", x.count(21), 3);
        x.feed(3, 100);
        x.feed(3, 100);
        due("402", x.feed(3, 100), TOO_MANY);
        due("402, and bad", x.feed(101, 100), BAD_VALUE);
        due("none of them came", x.count(0), 302);
        due("401", x.feed(3, 99), TOO_MANY);
        due("400", x.feed(3, 98), 0);
        due("came", x.count(0), 400);
        due("one more", x.feed(3, 1), TOO_MANY);
        due("one more, and bad", x.feed(3, 0), BAD_VALUE);
        due("the last", x.sample(399), 1003);
        x.clear();
        due("behind clear()", x.feed(3, 100), 0);

        x = with(HOLD, 0, PRE, 0);
        x.feed(-9, 1);
        due("not yet complete", x.feed(9, 7), 0);
        due("complete", x.feed(9, 1), 1);
        x.feed(-9, 1);
        due("complete in the middle of them", x.feed(9, 100), 1);
        due("two", x.count(7), 2);
    }

    private static void rises() { // 3
        CaptureSegments x = bare(LEVEL, 10, HYST, 5);
        feedAll(x, 100, 10);
        counts("off at first", x, 3, 0, 0);
        feedAll(x, 5);
        due("at LEVEL less HYST it is not armed", x.count(3), 0);
        feedAll(x, 4);
        due("below it is", x.count(3), 1);
        feedAll(x, 9);
        counts("below LEVEL it stays armed", x, 3, 1, 0);
        due("fires at LEVEL", x.feed(10, 1), 1);
        counts("off then", x, 3, 0, 1);
        feedAll(x, 5, 100);
        counts("stays off", x, 3, 0, 1);
        feedAll(x, -100, 11);
        counts("fires above LEVEL", x, 3, 0, 2);
        due("kind", x.segment(1, 3), 0);

        x = bare(LEVEL, -100, HYST, 0);
        feedAll(x, -100, 100, -100);
        counts("nothing is below -100", x, 3, 0, 0);
        x = bare(HYST, 0);
        feedAll(x, -1, 0, 0, -1, 0);
        counts("without hysteresis", x, 3, 0, 2);
        x = bare(LEVEL, -60, HYST, 50);
        feedAll(x, -100, 100);
        counts("LEVEL less HYST is below all", x, 3, 0, 0);
    }

    private static void falls() { // 3
        CaptureSegments x = bare(KIND, 1, LEVEL, 10, HYST, 5);
        feedAll(x, -100, 10, 15);
        counts("at LEVEL and HYST it is not armed", x, 3, 0, 0);
        feedAll(x, 16);
        due("above it is", x.count(3), 1);
        feedAll(x, 11);
        counts("above LEVEL it stays armed", x, 3, 1, 0);
        due("fires at LEVEL", x.feed(10, 1), 1);
        counts("off then", x, 3, 0, 1);
        feedAll(x, 15, -100);
        counts("stays off", x, 3, 0, 1);
        feedAll(x, 100, -100);
        counts("fires below LEVEL", x, 3, 0, 2);
        due("kind", x.segment(1, 3), 1);
    }

    private static void runts() { // 3
        CaptureSegments x = bare(KIND, 2, LOW, -10, HIGH, 10);
        feedAll(x, 0);
        due("between, and off: off", x.count(3), 0);
        feedAll(x, -10);
        due("at LOW: off", x.count(3), 0);
        feedAll(x, -11);
        due("below LOW: armed", x.count(3), 1);
        feedAll(x, -12);
        counts("armed again, no firing", x, 3, 1, 0);
        feedAll(x, -10);
        due("at LOW: inside", x.count(3), 2);
        feedAll(x, 9);
        due("below HIGH: inside", x.count(3), 2);
        due("fires", x.feed(-11, 1), 1);
        counts("armed then", x, 3, 1, 1);
        feedAll(x, 10);
        due("at HIGH: off", x.count(3), 0);
        feedAll(x, 9, -11);
        counts("no runt", x, 3, 1, 1);
        feedAll(x, 0, 10, 0);
        counts("inside, then at HIGH: off", x, 3, 0, 1);
        feedAll(x, -11, 0, -11);
        counts("the next one", x, 3, 1, 2);
        feedAll(x, 0, -11);
        counts("armed by a firing", x, 3, 1, 3);
        due("kind", x.segment(2, 3), 2);
        due("HYST and LEVEL are nothing to runts", x.count(12), 1002);
    }

    private static void triggers() { // 3
        CaptureSegments x = with(HOLD, 0, PRE, 0, DEPTH, 4, HYST, 0);
        feedAll(x, -1, 0);
        counts("captures", x, 1, 0, 3, 0, 1, 1, 0, 0, 2, 3);
        feedAll(x, -1);
        due("fires while captured", x.feed(0, 1), 0);
        counts("ignored", x, 1, 0, 3, 0, 2, 1, 1, 0, 4, 1);
        feedAll(x, -1);
        counts("complete", x, 1, 1, 1, 1, 2, 1, 1, 1, 0, 0);
        feedAll(x, 0, -1, -1);
        counts("captures again", x, 1, 1, 3, 1, 3, 2, 1, 1, 3, 1);
        due("a firing with the last sample", x.feed(0, 1), 1);
        counts("is ignored, for it is captured still", x, 1, 2, 1, 0, 4, 2, 2, 2, 0, 0);
        due("nothing more becomes complete", x.feed(0, 9), 0);

        x = with(HOLD, 0, PRE, 3, DEPTH, 4);
        feedAll(x, 5, 6, -7);
        due("the trigger is its last one", x.feed(8, 1), 1);
        counts("at once", x, 1, 1, 0, 0, 1, 1, 0, 1, 0, 0);
        due("first", x.sampleOf(0, 0), 1005);
        due("last", x.sampleOf(0, 3), 1008);

        x = with(KIND, 2, HOLD, 0, PRE, 0, DEPTH, 3);
        feedAll(x, -30, 0, -30);
        x.set(KIND, 0);
        feedAll(x, 0, 0);
        due("the kind at the trigger", x.segment(0, 3), 2);

        // DEPTH and PRE of an undone or restored capture are those at its trigger.
        x = with(HOLD, 0, PRE, 1, DEPTH, 3);
        x.save(0);
        feedAll(x, -3, 5);
        x.save(1);
        x.restore(0);
        x.set(DEPTH, 9);
        x.set(PRE, 4);
        x.restore(1);
        due("captures still", x.count(9), 1);
        due("completes", x.feed(7, 1), 1);
        due("DEPTH", x.segment(0, 1), 3);
        due("PRE", x.segment(0, 2), 1);
        due("trigger", x.segment(0, 0), 1);
    }

    private static void holdAndPre() { // 3
        for (int hold = 0; hold <= 3; hold++) {
            for (int pre = 0; pre <= 3; pre++) {
                for (int ahead = 1; ahead <= 4; ahead++) {
                    CaptureSegments x = with(HOLD, hold, PRE, pre);
                    x.feed(-9, ahead);
                    boolean enough = ahead >= hold && ahead >= pre;
                    String when = ahead + " ahead, HOLD " + hold + ", PRE " + pre;
                    due(when + ": phase", x.count(2), enough ? 1 : 0);
                    x.feed(9, 1);
                    counts(when, x, 4, 1, enough ? 1 : 0, enough ? 0 : 1);
                    due(when + ": phase", x.count(2), enough ? 3 : ahead + 1 >= Math.max(hold, pre) ? 1 : 0);
                }
            }
        }
        // The count starts anew with each segment that is complete, not with its trigger.
        CaptureSegments x = with(HOLD, 3, PRE, 1, DEPTH, 3);
        feedAll(x, -9, -9, -9, 9, 9);
        counts("complete", x, 1, 1, 0);
        feedAll(x, -9, -9);
        counts("two came", x, 2, 0, 1);
        due("two came since", x.count(8), 2);
        feedAll(x, 9);
        counts("ignored", x, 4, 2, 1, 1, 1, 3);
        feedAll(x, -9, 9);
        counts("a trigger", x, 4, 3, 2, 1, 1, 5, 1);
        due("phase", x.count(2), 3);

        x = with();
        x.set(DEPTH, 32);
        x.set(PRE, 31);
        x.set(HOLD, 60);
        x.feed(-9, 59);
        due("59 of 60", x.count(2), 0);
        x.feed(-9, 1);
        due("60 of 60", x.count(2), 1);
        due("complete at once", x.feed(9, 1), 1);
        due("trigger", x.segment(0, 0), 60);
        due("first", x.sampleOf(0, 0), 991);
        due("last", x.sampleOf(0, 31), 1009);
    }

    private static void roomAndOver() { // 3
        CaptureSegments x = bare(KEEP, 2);
        feedAll(x, -9, 1, -9, 2);
        counts("full", x, 1, 2, 2);
        feedAll(x, -9, 3);
        counts("ignored", x, 4, 3, 2, 1, 2, 2);
        due("the oldest one stays", x.sampleOf(0, 0), 1001);
        x.set(OVER, 1);
        counts("there is room", x, 1, 2, 1);
        feedAll(x, -9, 4);
        counts("written over", x, 1, 2, 1, 0, 4, 3, 1, 3, 0);
        due("the oldest one went", x.sampleOf(0, 0), 1002);
        due("the new one is the last", x.sampleOf(1, 0), 1004);
        x.set(OVER, 0);
        due("no room", x.count(2), 2);
        x.set(KEEP, 3);
        due("room", x.count(2), 1);
        x.set(HOLD, 5);
        due("too few", x.count(2), 0);
        x.set(KEEP, 2);
        due("no room is told ahead of too few", x.count(2), 2);

        // OVER is taken back while one is captured: it is kept all the same.
        x = with(HOLD, 0, PRE, 0, DEPTH, 2, KEEP, 1, OVER, 1);
        feedAll(x, -9, 1, 1, -9, 2);
        due("the old one is kept until the new one is complete", x.count(1), 1);
        due("the old one", x.segment(0, 0), 1);
        x.set(OVER, 0);
        due("complete", x.feed(2, 1), 1);
        due("one", x.count(1), 1);
        due("the new one", x.segment(0, 0), 4);
    }

    private static void clear() { // 4
        CaptureSegments x = with(HOLD, 1, PRE, 0, DEPTH, 2, HYST, 0);
        due("clear() of nothing", x.clear(), 0);
        due("records", x.count(21), 5);
        feedAll(x, -1, 0, 3, -1, 4, 5, -1, 6);
        counts("ahead", x, 0, 8, 2, 3, 0, 3, 3, 0, 2, 2, 1);
        due("clear()", x.clear(), 2);
        counts("behind", x, 0, 0, 0, 0, 0, 3, 3, 0, 2, 0, 0);
        counts("settings", x, 10, 1000, 1000, 1000, 980, 1020, 1002, 1000, 1001, 1004, 1000);
        due("no sample", x.sample(0), NO_SUCH);
        due("no segment", x.segment(0, 0), NO_SUCH);
        due("DEPTH can be set", x.set(DEPTH, 3), 1002);
        feedAll(x, -1);
        due("armed", x.count(3), 1);
        x.clear();
        due("off", x.count(3), 0);
        feedAll(x, 0);
        counts("does not fire", x, 4, 3);
        due("numbered from 0", x.sample(0), 1000);
        due("undo()", x.undo() >= 0 && x.undo() >= 0 ? 1 : 0, 1);
        due("armed again", x.count(3), 1);
    }

    private static void drop() { // 5
        CaptureSegments x = bare();
        due("drop(0) of none", x.drop(0), NO_SUCH);
        feedAll(x, -9, 1, -9, 2, -9, 3, -9, 4);
        for (int none : new int[] {-1, 4, 6, Integer.MIN_VALUE, Integer.MAX_VALUE}) {
            due("drop(" + none + ")", x.drop(none), NO_SUCH);
        }
        due("phase", x.count(2), 2);
        due("the second", x.drop(1), 3);
        due("phase", x.count(2), 1);
        due("first", x.sampleOf(0, 0), 1001);
        due("second", x.sampleOf(1, 0), 1003);
        due("third", x.sampleOf(2, 0), 1004);
        due("fourth", x.sampleOf(3, 0), NO_SUCH);
        counts("what is counted stays", x, 4, 4, 4, 0, 4, 0);
        due("the last", x.drop(2), 2);
        due("the first", x.drop(0), 1);
        due("left", x.sampleOf(0, 0), 1003);
        due("the last one", x.drop(0), 0);
        due("samples stay", x.count(0), 8);
        due("undo()", x.undo(), 5);
        due("back", x.sampleOf(0, 0), 1003);
        x.feed(5, 3);
        x.drop(0);
        due("samples since stay", x.count(8), 3);
    }

    private static void segment() { // 6
        CaptureSegments x = with(HOLD, 0, KIND, 1);
        due("none", x.segment(0, 0), NO_SUCH);
        due("none, and bad", x.segment(0, 9), NO_SUCH);
        feedAll(x, 70, 3, 9, -5, -5, 80, -100, 7);
        due("not yet", x.segment(0, 0), NO_SUCH);
        feedAll(x, 8, 2, 0);
        int[] wants = {3, 8, 2, 1, 900, 1080, 10000 + 3 + 9 - 5 - 5 + 80 - 100 + 7 + 8, 4};
        for (int what = 0; what < 8; what++) {
            due("segment(0, " + what + ")", x.segment(0, what), wants[what]);
        }
        for (int what : new int[] {-1, 8, Integer.MIN_VALUE, Integer.MAX_VALUE}) {
            due("segment(0, " + what + ")", x.segment(0, what), BAD_VALUE);
            due("segment(1, " + what + ")", x.segment(1, what), NO_SUCH);
        }
        for (int none : new int[] {-1, 1, 6, Integer.MIN_VALUE, Integer.MAX_VALUE, 1 << 30}) {
            due("segment(" + none + ", 0)", x.segment(none, 0), NO_SUCH);
        }
        x = bare();
        feedAll(x, -9, 100);
        int[] one = {1, 1, 0, 0, 1100, 1100, 10100, 0};
        for (int what = 0; what < 8; what++) {
            due("one sample: segment(0, " + what + ")", x.segment(0, what), one[what]);
        }
        x = with(DEPTH, 32, PRE, 31, HOLD, 0);
        x.feed(-100, 100);
        x.set(LEVEL, -100);
        due("not armed at -100", x.feed(-100, 1), 0);
        x.set(LEVEL, 0);
        x.feed(-100, 31);
        x.feed(0, 1);
        due("least", x.segment(0, 4), 900);
        due("greatest", x.segment(0, 5), 1000);
        due("sum", x.segment(0, 6), 6900);
        due("trigger", x.segment(0, 0), 132);
    }

    /** The least and the greatest sample at each place, with lesser and greater ones around the segment. */
    private static void segmentPlaces() { // 6
        for (int place = 0; place < 4; place++) {
            for (int extreme : new int[] {-40, 40}) {
                CaptureSegments x = with(LEVEL, -50, HOLD, 0, PRE, 0, DEPTH, 4);
                int[] values = {3, 5, 1, 2};
                values[place] = extreme;
                feedAll(x, 90, 100, -100);
                feedAll(x, values);
                feedAll(x, 100, -100, 100);
                String when = extreme + " at place " + place;
                due(when + ": trigger", x.segment(0, 0), 3);
                due(when + ": least", x.segment(0, 4), extreme < 0 ? 960 : 1001 + (place == 2 ? 1 : 0));
                due(when + ": greatest", x.segment(0, 5), extreme > 0 ? 1040 : place == 1 ? 1003 : 1005);
                due(when + ": sum", x.segment(0, 6), 10011 + extreme - new int[] {3, 5, 1, 2}[place]);
                int ups = 0;
                for (int i = 1; i < 4; i++) {
                    ups += values[i] > values[i - 1] ? 1 : 0;
                }
                due(when + ": ups", x.segment(0, 7), ups);
            }
        }
    }

    private static void sampleOf() { // 7
        CaptureSegments x = with(HOLD, 0, DEPTH, 4);
        due("none", x.sampleOf(0, 0), NO_SUCH);
        feedAll(x, 99, -100, -5, 100, 6, 7);
        due("first", x.sampleOf(0, 0), 900);
        due("second", x.sampleOf(0, 1), 995);
        due("trigger", x.sampleOf(0, 2), 1100);
        due("last", x.sampleOf(0, 3), 1006);
        for (int none : new int[] {-1, 4, 8, Integer.MIN_VALUE, Integer.MAX_VALUE}) {
            due("sampleOf(0, " + none + ")", x.sampleOf(0, none), NO_SUCH);
            due("sampleOf(" + (none == 0 ? 1 : none) + ", 0)", x.sampleOf(none, 0), NO_SUCH);
        }
        due("sampleOf(1, 0)", x.sampleOf(1, 0), NO_SUCH);
    }

    private static void sample() { // 8
        CaptureSegments x = new CaptureSegments();
        feedAll(x, -100, 0, 100);
        due("sample(0)", x.sample(0), 900);
        due("sample(1)", x.sample(1), 1000);
        due("sample(2)", x.sample(2), 1100);
        for (int none : new int[] {-1, 3, 400, Integer.MIN_VALUE, Integer.MAX_VALUE}) {
            due("sample(" + none + ")", x.sample(none), NO_SUCH);
        }
        x.undo();
        due("undone", x.sample(2), NO_SUCH);
    }

    private static void count() { // 9
        CaptureSegments x = new CaptureSegments();
        for (int bad : new int[] {-1, 22, 23, Integer.MIN_VALUE, Integer.MAX_VALUE}) {
            due("count(" + bad + ")", x.count(bad), BAD_VALUE);
        }
        x.set(KIND, 0);
        x.set(LEVEL, -1);
        x.set(HYST, 3);
        x.set(LOW, -5);
        x.set(HIGH, 6);
        x.set(DEPTH, 7);
        x.set(PRE, 4);
        x.set(HOLD, 6);
        x.set(KEEP, 5);
        x.set(OVER, 1);
        putText(x, "1,2;c");
        counts("settings, pad, history", x, 10, 1000, 999, 1003, 995, 1006, 1007, 1004, 1006, 1005, 1001, 5, 6);
        x.feed(-9, 6);
        counts("ready", x, 0, 6, 0, 1, 1, 0, 0, 0, 0, 6, 0);
        x.feed(9, 1);
        counts("captures", x, 0, 7, 0, 3, 0, 1, 1, 0, 0, 7, 2);
        x.feed(9, 2);
        counts("complete", x, 0, 9, 1, 0, 0, 1, 1, 0, 1, 0, 0);
        feedAll(x, -9, 9);
        counts("ignored", x, 0, 11, 1, 0, 0, 2, 1, 1, 1, 2, 0);
    }

    private static void fires() { // 10
        CaptureSegments x = with(HYST, 3);
        due("no samples", x.fires(0), 0);
        feedAll(x, 10, 0, 10, -20, 30, 7, 10, 5);
        due("fires(0)", x.fires(0), 1);
        due("fires(4)", x.fires(4), 2);
        due("fires(3)", x.fires(3), 1);
        due("fires(10)", x.fires(10), 2);
        due("fires(11)", x.fires(11), 1);
        due("fires(31)", x.fires(31), 0);
        due("fires(-17)", x.fires(-17), 0);
        due("fires(-16)", x.fires(-16), 1);
        for (int bad : new int[] {-101, 101, Integer.MIN_VALUE, Integer.MAX_VALUE}) {
            due("fires(" + bad + ")", x.fires(bad), BAD_VALUE);
        }
        due("fires(100)", x.fires(100), 0);
        due("fires(-100)", x.fires(-100), 0);
        x.set(LEVEL, 50);
        x.set(HYST, 0);
        due("the level of now is nothing to it", x.fires(10), 3);
        x.set(KIND, 1);
        due("falls", x.fires(5), 3);
        due("falls at 7", x.fires(7), 4);
        due("falls at 10", x.fires(10), 1);
        counts("nothing changes", x, 3, 0, 1, 1, 0);
        due("nothing is recorded", x.undo(), 5);

        x = with(KIND, 2, HIGH, 15);
        feedAll(x, -5, 3, -6, 8, -20, 15, -7);
        due("runts at 0", x.fires(0), 2);
        due("runts at -5", x.fires(-5), 1);
        due("runts at 14", x.fires(14), 0);
        due("runts at HIGH", x.fires(15), NOT_POSSIBLE);
        due("runts above HIGH", x.fires(100), NOT_POSSIBLE);
        due("runts out of range", x.fires(101), BAD_VALUE);
        due("the detector was armed by another LOW only", x.count(4), 0);
        x.set(KIND, 0);
        due("rises at HIGH", x.fires(15), 1);
        x.clear();
        due("cleared", x.fires(0), 0);
    }

    private static void bestLevel() { // 11
        CaptureSegments x = with(HYST, 1);
        due("no samples", x.bestLevel(0), 900);
        due("no samples", x.bestLevel(1), 0);
        for (int bad : new int[] {-1, 2, Integer.MIN_VALUE, Integer.MAX_VALUE}) {
            due("bestLevel(" + bad + ")", x.bestLevel(bad), BAD_VALUE);
        }
        feedAll(x, 10, 20, 10, 20, 30, 20, 30, 20, 30);
        due("the least of several", x.bestLevel(0), 1022);
        due("how often", x.bestLevel(1), 3);
        x.set(HYST, 9);
        due("with hysteresis", x.bestLevel(0), 1030);
        x.set(HYST, 10);
        due("none of three", x.bestLevel(1), 1);
        due("the least", x.bestLevel(0), 1021);
        x.set(KIND, 1);
        due("falls: 30 is not above 20 and 10", x.bestLevel(1), 0);
        due("none fires: the least level", x.bestLevel(0), 900);
        x.set(HYST, 9);
        due("falls", x.bestLevel(0), 1020);
        due("falls, how often", x.bestLevel(1), 2);

        x = bare(HYST, 0);
        feedAll(x, 99, 100, 99, 100);
        due("the greatest level", x.bestLevel(0), 1100);
        due("how often", x.bestLevel(1), 2);
        feedAll(x, -100, -99, -100, -99, -100, -99);
        due("the least level that can fire", x.bestLevel(0), 901);
        due("how often", x.bestLevel(1), 3);
        x = bare(KIND, 2, LOW, -100);
        feedAll(x, 18, 19, 18, 19, 18, 50);
        due("runts: HIGH less one", x.bestLevel(0), 1019);
        due("runts: how often", x.bestLevel(1), 2);
        x.set(HIGH, 19);
        due("runts: not at HIGH", x.bestLevel(1), 0);
        due("runts: the least", x.bestLevel(0), 900);
        x.set(HIGH, -99);
        due("runts: only -100 is left", x.bestLevel(0), 900);
        counts("nothing changes", x, 4, 0, 0, 0, 0);
    }

    private static void unlike() { // 12
        CaptureSegments x = with(HOLD, 0, PRE, 1, DEPTH, 4, KEEP, 6);
        feedAll(x, -9, 5, 6, 7);
        feedAll(x, -3, 1, 9, 7);
        due("two", x.unlike(0, 1), 6 + 4 + 3 + 0);
        due("the other way", x.unlike(1, 0), 13);
        due("itself", x.unlike(1, 1), 0);
        x.set(PRE, 0);
        x.set(DEPTH, 2);
        feedAll(x, -4, 50, 60);
        due("shorter", x.unlike(0, 2), 45 + 54);
        due("shorter, the other way", x.unlike(2, 1), 49 + 51);
        x.set(DEPTH, 6);
        x.set(PRE, 5);
        feedAll(x, 1, 2, 3, -4, -5, 0);
        due("only what both have ahead", x.unlike(0, 3), 4 + 5);
        due("the triggers alone", x.unlike(3, 2), 50);
        for (int none : new int[] {-1, 4, Integer.MIN_VALUE, Integer.MAX_VALUE}) {
            due("unlike(0, " + none + ")", x.unlike(0, none), NO_SUCH);
            due("unlike(" + none + ", 0)", x.unlike(none, 0), NO_SUCH);
        }
    }

    private static void nearest() { // 13
        CaptureSegments x = bare(KEEP, 6);
        due("none", x.nearest(0), NO_SUCH);
        feedAll(x, -9, 10);
        due("no other one", x.nearest(0), NONE);
        due("no such", x.nearest(1), NO_SUCH);
        feedAll(x, -9, 30, -9, 20, -9, 0, -9, 30);
        due("of several the lowest", x.nearest(0), 2);
        due("the same", x.nearest(1), 4);
        due("of several the lowest", x.nearest(2), 0);
        due("below", x.nearest(3), 0);
        due("not itself", x.nearest(4), 1);
        for (int bad : new int[] {-1, 5, Integer.MIN_VALUE, Integer.MAX_VALUE}) {
            due("nearest(" + bad + ")", x.nearest(bad), NO_SUCH);
        }
    }

    private static void put() { // 14
        CaptureSegments x = new CaptureSegments();
        long[] bad = {0, 32, 127, 128, 255, 0x3100, 0x310031L, 0x3120L, 0x2031L, 0x317FL, -1, Long.MIN_VALUE,
            Long.MAX_VALUE, 0x3131313131313100L, 0x3100313131313131L, 0x8031313131313131L, 0x0131313131313131L,
            1L << 40 | 0x31};
        for (long b : bad) {
            due("put(" + b + ")", x.put(b), BAD_VALUE);
        }
        due("nothing came", x.count(20), 0);
        due("least code", x.put(33), 1);
        due("greatest code", x.put(126), 2);
        due("eight", x.put(0x7E7E7E7E7E7E7E7EL), 10);
        due("wiped", x.wipe(), 10);
        due("12", x.put(0x3132), 2);
        due("12;c", x.put(0x3B63), 4);
        due("no fault", x.fault(), NONE);
        due("two orders", x.carryOut(), 2);
        due("the last character is in the lowest bits", x.put(0x2D39302C32L), 5);
        x.carryOut();
        due("-90", x.sample(0), 910);
        due("2", x.sample(1), 1002);
        for (int i = 1; i < 10; i++) {
            due("eight more", x.put(0x3131313131313131L), 8 * i);
        }
        due("79", x.put(0x31313131313131L), 79);
        due("81", x.put(0x3131), TOO_MANY);
        due("81, and bad", x.put(0x3120), BAD_VALUE);
        due("80", x.put(0x31), 80);
        due("81", x.put(0x31), TOO_MANY);
        due("88", x.put(0x3131313131313131L), TOO_MANY);
        due("bad", x.put(0), BAD_VALUE);
        due("stays", x.count(20), 80);
        due("is no change", x.count(21), 2);
    }

    private static void wipe() { // 15
        CaptureSegments x = new CaptureSegments();
        due("empty", x.wipe(), 0);
        putText(x, "12*34567891");
        due("11", x.wipe(), 11);
        due("empty", x.count(20), 0);
        due("empty", x.wipe(), 0);
        due("is no change", x.count(21), 0);
        putText(x, "c");
        due("begins anew", x.fault(), NONE);
    }

    private static void fault() { // 16
        due("empty", new CaptureSegments().fault(), 0);
        String[] good = {"0", "-0", "100", "-100", "10", "99", "7*0", "7*100", "-7*9", "1,2", "-1*2,-3*4,5", "k0", "k1",
            "k2", "l0", "l-0", "l100", "l-100", "c", "c;c", "k1;l-5;1,2*3;c", "0,0;0",
            "1,2,3,4,5,6,7,8,9,1,2,3,4,5,6,7,8,9,1,2,3,4,5,6,7,8,9,1,2,3,4,5,6,7,8,9,1,2,3;10"};
        for (String text : good) {
            faultOf(text, NONE);
        }
        Object[][] bad = {
            {"-", 1}, {"1,", 2}, {"1;", 2}, {"1*", 2}, {"l", 1}, {"l-", 2}, {"k", 1}, {"c;", 2}, {"1,-", 3},
            {"101", 2}, {"109", 2}, {"200", 2}, {"999", 2}, {"1000", 3}, {"110", 2}, {"00", 1}, {"01", 1}, {"-01", 2},
            {"1*05", 3}, {"1*101", 4}, {"1*1000", 5}, {"l101", 3}, {"l00", 2}, {"l-101", 4},
            {"x", 0}, {";", 0}, {",", 0}, {"*", 0}, {";1", 0}, {"--1", 1}, {"-k", 1}, {"1--", 1}, {"1;;", 2},
            {"1,,", 2}, {"1,k", 2}, {"1,c", 2}, {"1,l", 2}, {"1*-", 2}, {"1**", 2}, {"1*2*", 3}, {"1k", 1}, {"1c", 1},
            {"1*2c", 3}, {"k3", 1}, {"k9", 1}, {"k-", 1}, {"k00", 2}, {"k1,", 2}, {"k11", 2}, {"kk", 1}, {"lk", 1},
            {"l--", 2}, {"l5,", 2}, {"l5*", 2}, {"l5l", 2}, {"cc", 1}, {"c1", 1}, {"c,", 1}, {"c*", 1}, {"K", 0},
            {"C", 0}, {"L", 0}, {"+1", 0}, {"1.5", 1}, {"1:", 1}, {"1/", 1}, {"!", 0}, {"~", 0},
            {"1;2;3;x", 6}, {"c;k2;l100;5*100;-3,", 19}};
        for (Object[] b : bad) {
            faultOf((String) b[0], (Integer) b[1]);
        }
        StringBuilder full = new StringBuilder();
        for (int i = 0; i < 40; i++) {
            full.append("1,");
        }
        faultOf(full.toString(), 80);
        full.setCharAt(79, '1');
        faultOf(full.toString(), NONE);
        full.setCharAt(79, 'x');
        faultOf(full.toString(), 79);
        full.setCharAt(78, '0');
        full.setCharAt(79, '0');
        faultOf(full.toString(), 79);
        CaptureSegments x = new CaptureSegments();
        putText(x, "1,2");
        due("fault()", x.fault(), NONE);
        counts("changes nothing", x, 20, 3, 0);
        due("no sample", x.count(0), 0);
    }

    private static void carryOut() { // 17
        CaptureSegments x = new CaptureSegments();
        due("empty", x.carryOut(), BAD_TEXT);
        due("no record", x.count(21), 0);
        runText(x, "5,-6*3,7", 1);
        due("five", x.count(0), 5);
        due("one change", x.count(21), 1);
        due("sample(1)", x.sample(1), 994);
        due("sample(3)", x.sample(3), 994);
        due("sample(4)", x.sample(4), 1007);
        runText(x, "k2;l-100;l55;-0", 4);
        due("kind", x.count(10), 1002);
        due("level", x.count(11), 1055);
        due("-0 is 0", x.sample(5), 1000);
        due("the detector is off", x.count(3), 0);
        runText(x, "l-7;c", 2);
        due("a level below 0 is no error", x.count(11), 993);
        due("cleared", x.count(0), 0);
        runText(x, "c;c;c;c;c;c;c;c;c;c;c;c;c;c;c;c;c;c;c;c;c;c;c;c;c;c;c;c;c;c;c;c;c;c;c;c;c;c;c;c", 40);
        due("changes", x.count(21), 4);
        due("undo()", x.undo(), 3);
        due("undo()", x.undo(), 2);
        due("all orders of it", x.count(0), 6);
        due("pad", x.count(20), 0);

        x = bare();
        runText(x, "-9,1;-9,2;k1;9,-3;l50;k0;-9,99", 7);
        counts("segments", x, 0, 8, 4, 2, 0, 4, 4, 0, 4, 0);
        due("of another kind", x.segment(2, 3), 1);

        x = bare(KIND, 1);
        x.feed(9, 1);
        runText(x, "-3", 1);
        counts("the detector was armed ahead of it", x, 3, 0, 1, 1);
        due("kind", x.count(10), 1001);
        x.feed(9, 1);
        runText(x, "4;l4;4;9;l-2;-1", 6);
        counts("\"l\" puts it off", x, 3, 0, 1);
        x.feed(9, 1);
        runText(x, "k1;-50;9", 3);
        counts("\"k\" puts it off", x, 3, 1, 1);
        runText(x, "c", 1);
        counts("\"c\" puts it off", x, 3, 0, 1);
    }

    private static void carryOutErrors() { // 17
        CaptureSegments x = new CaptureSegments();
        runText(x, "5*0", 0);
        due("none came", x.count(0), 0);
        due("also if none is carried out: a change", x.count(21), 1);
        runText(x, "1;2;3,4*0,5;6", 2);
        due("those ahead of it stay", x.count(0), 3);
        due("the last", x.sample(2), 1003);
        due("undo()", x.undo(), 1);
        due("all gone", x.count(0), 0);
        runText(x, "1*100,2*100;3*100;4*99;5*2,6;c", 3);
        due("up to the first error", x.count(0), 399);
        runText(x, "7;8;c", 1);
        due("400", x.count(0), 400);
        runText(x, "8;c", 0);
        due("400", x.count(0), 400);
        runText(x, "c;8*100,9;8*0", 2);
        due("101", x.count(0), 101);

        x = new CaptureSegments();
        putText(x, "1,2;c;3x");
        due("a fault", x.carryOut(), BAD_TEXT);
        counts("changes nothing", x, 20, 8, 0);
        due("nothing came", x.count(0), 0);
        due("it stays", x.wipe(), 8);
        runText(x, "5,6", 1);
        putText(x, "7");
        due("the pad was begun anew", x.carryOut(), 1);
        due("three", x.count(0), 3);
        due("7", x.sample(2), 1007);
    }

    private static void undo() { // 18
        CaptureSegments x = new CaptureSegments();
        due("nothing", x.undo(), NOT_POSSIBLE);
        for (int i = 1; i <= 9; i++) {
            x.feed(i, 1);
            due("history", x.count(21), Math.min(i, 6));
        }
        for (int left = 5; left >= 0; left--) {
            due("undo()", x.undo(), left);
            due("samples", x.count(0), 3 + left);
            due("count(21)", x.count(21), left);
        }
        due("no more", x.undo(), NOT_POSSIBLE);
        due("three", x.count(0), 3);
        x.feed(50, 1);
        x.feed(51, 1);
        due("behind undo(), a new change", x.undo(), 1);
        due("50", x.sample(3), 1050);
        due("four", x.count(0), 4);

        x = with(HOLD, 0, PRE, 0, DEPTH, 3, HYST, 0, KIND, 1);
        feedAll(x, 1, 0, 1);
        counts("captures", x, 0, 3, 0, 3, 1, 1, 1, 0, 0, 3, 1);
        x.feed(0, 1);
        counts("complete", x, 0, 4, 1, 1, 0, 2, 1, 1, 1, 0, 0);
        due("undo()", x.undo(), 5);
        counts("as it was", x, 0, 3, 0, 3, 1, 1, 1, 0, 0, 3, 1);
        due("completes again", x.feed(0, 1), 1);
        due("trigger", x.segment(0, 0), 1);
        x.drop(0);
        x.clear();
        x.set(LEVEL, 9);
        x.undo();
        due("level", x.count(11), 1000);
        x.undo();
        due("samples", x.count(0), 4);
        x.undo();
        due("segment", x.segment(0, 6), 10001);

        x = bare();
        feedAll(x, -9, 1, -9, 2, -9, 3);
        x.drop(0);
        x.drop(0);
        due("undo()", x.undo(), 5);
        due("the second", x.sampleOf(0, 0), 1002);
        due("undo()", x.undo(), 4);
        due("the first", x.sampleOf(0, 0), 1001);
        due("the third", x.sampleOf(2, 0), 1003);
        counts("counted so far", x, 4, 3, 3, 0, 3);
        due("undo()", x.undo(), 3);
        counts("counted so far", x, 4, 2, 2, 0, 2);
        x.set(KEEP, 1);
        due("one", x.sampleOf(0, 0), 1002);
        x.undo();
        due("two", x.count(1), 2);
        due("the first", x.sampleOf(0, 0), 1001);
        due("keep", x.count(18), 1004);
        x.clear();
        feedAll(x, -50, 50);
        x.undo();
        x.undo();
        x.undo();
        due("samples", x.sample(1), 1001);
        due("the first", x.sampleOf(0, 0), 1001);
        due("the second", x.sampleOf(1, 0), 1002);

        // What is nothing for undo(): the pad, the slots, errors, questions.
        x = new CaptureSegments();
        x.feed(5, 2);
        x.save(0);
        putText(x, "1,2");
        x.fires(0);
        x.bestLevel(0);
        x.fault();
        x.set(KIND, 9);
        x.feed(0, 0);
        x.drop(0);
        x.restore(1);
        due("one change", x.count(21), 1);
        due("undo()", x.undo(), 0);
        due("the pad stays", x.count(20), 3);
        due("the slot stays", x.restore(0), 0);
        due("two samples", x.count(0), 2);
        due("restore() is a change", x.undo(), 0);
        due("no sample", x.count(0), 0);
        due("clear() of nothing is a change", x.clear(), 0);
        due("set() to what it is is a change", x.set(KIND, 0), 1000);
        due("two", x.count(21), 2);
        x.carryOut();
        due("three", x.count(21), 3);
        putText(x, "9");
        due("undo()", x.undo(), 2);
        due("the pad is what it was", x.count(20), 1);
        due("no sample", x.count(0), 0);
    }

    private static void save() { // 19
        CaptureSegments x = bare(KEEP, 3);
        for (int bad : new int[] {-1, 2, Integer.MIN_VALUE, Integer.MAX_VALUE}) {
            due("save(" + bad + ")", x.save(bad), BAD_VALUE);
        }
        due("still nothing in it", x.restore(0), NOT_POSSIBLE);
        due("save(0)", x.save(0), 0);
        due("still nothing in the other", x.restore(1), NOT_POSSIBLE);
        feedAll(x, -9, 1, -9, 2);
        due("save(1)", x.save(1), 2);
        feedAll(x, -9, 3);
        due("is no change", x.count(21), 6);
        due("restore(0)", x.restore(0), 0);
        due("restore(1)", x.restore(1), 2);
        due("save(0)", x.save(0), 2);
        due("drop(0)", x.drop(0), 1);
        due("save(1)", x.save(1), 1);
        due("overwritten", x.restore(0), 2);
        due("overwritten", x.restore(1), 1);
    }

    /** The segment that is being captured is the one that was when it was saved. */
    private static void restoreCaptured() { // 20
        CaptureSegments x = with(HOLD, 0, PRE, 1, DEPTH, 3);
        feedAll(x, 60, -9, 5);
        x.save(0);
        x.clear();
        x.set(DEPTH, 6);
        x.set(PRE, 3);
        x.set(KIND, 1);
        feedAll(x, 1, 2, 3, 4, 5, 6, -7);
        x.save(1);
        due("captures", x.count(9), 2);
        x.restore(0);
        counts("captures", x, 8, 3, 1);
        due("complete", x.feed(8, 1), 1);
        int[] wants = {2, 3, 1, 0, 991, 1008, 10004, 2};
        for (int what = 0; what < 8; what++) {
            due("restore(0), segment(0, " + what + ")", x.segment(0, what), wants[what]);
        }
        x.restore(1);
        counts("captures", x, 8, 7, 2);
        due("complete", x.feed(8, 2), 1);
        wants = new int[] {6, 6, 3, 1, 993, 1008, 10024, 3};
        for (int what = 0; what < 8; what++) {
            due("restore(1), segment(0, " + what + ")", x.segment(0, what), wants[what]);
        }
    }

    private static void restore() { // 20
        CaptureSegments x = with(HOLD, 0, PRE, 0, DEPTH, 3, HYST, 0);
        for (int bad : new int[] {-1, 2, Integer.MIN_VALUE, Integer.MAX_VALUE}) {
            due("restore(" + bad + ")", x.restore(bad), BAD_VALUE);
        }
        due("nothing saved", x.restore(0), NOT_POSSIBLE);
        due("no record", x.count(21), 4);
        feedAll(x, -1, 0, 5, 6, -1, 7, -1);
        counts("ahead", x, 0, 7, 1, 3, 1, 2, 2, 0, 1, 3, 1);
        x.save(0);
        putText(x, "1,2,");
        x.clear();
        x.set(KIND, 2);
        x.set(DEPTH, 30);
        x.set(OVER, 1);
        x.feed(9, 100);
        int undoable = x.count(21);
        due("restore(0)", x.restore(0), 1);
        counts("as it was", x, 0, 7, 1, 3, 1, 2, 2, 0, 1, 3, 1);
        counts("the settings", x, 10, 1000, 1000, 1000, 980, 1020, 1003, 1000, 1000, 1004, 1000);
        due("not the pad", x.count(20), 4);
        due("not the history", x.count(21), Math.min(undoable + 1, 6));
        due("the sample", x.sample(5), 1007);
        due("fires and completes", x.feed(8, 1), 1);
        due("two", x.count(1), 2);
        due("the slot keeps it", x.restore(0), 1);
        counts("as it was", x, 0, 7, 1, 3, 1, 2, 2, 0, 1, 3, 1);
        due("is a change", x.undo(), 5);
        due("two again", x.count(1), 2);
        due("undo()", x.undo(), 4);
        due("undo()", x.undo(), 3);
        counts("as it was ahead of restore()", x, 0, 100, 0, 1, 0, 2, 2, 0, 1, 100, 0);
        due("depth", x.count(15), 1030);
    }
}
