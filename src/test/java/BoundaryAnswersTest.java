/** Promises 6 to 13 of the document: what there is, and the questions. */
public final class BoundaryAnswersTest extends Scopes {
    private static final int[] BEYOND = {LOWEST, LOWEST + 1, HIGHEST - 1, HIGHEST, 1 << 30, 1 << 31 | 1};

    public static void main(String[] args) {
        Boundaries.main(BoundaryAnswersTest.class);
    }

    /** An object with one segment of these samples, the trigger at its place PRE; others stand around it. */
    private static CaptureSegments segmentOf(int pre, int... samples) {
        CaptureSegments x = with(PRE, 0, DEPTH, samples.length, PRE, pre, HOLD, 0, LEVEL, -100, HYST, 0);
        feedAll(x, 90, -90);
        if (samples[pre] > -100) {
            x.set(LEVEL, samples[pre]);
        }
        for (int i = 0; i < pre; i++) {
            x.feed(samples[i], 1);
        }
        if (pre == 0) {
            x.feed(-100, 1);
        }
        for (int i = pre; i < samples.length; i++) {
            x.feed(samples[i], 1);
        }
        feedAll(x, -100, 100, 99);
        return x;
    }

    /** An object with one segment, 5 and 6, and with greater samples ahead of it and behind it. */
    private static CaptureSegments amongGreaterOnes() {
        CaptureSegments x = with(PRE, 0, DEPTH, 2, HOLD, 0, KIND, FALLS, LEVEL, 5);
        feedAll(x, 100, 5, 6, 100);
        return x;
    }

    // ---- 6

    @Sentence("Returns something about a segment that is kept.")
    static void p06_keptOnesAlone(Check check) {
        CaptureSegments x = with(PRE, 0, DEPTH, 2, HOLD, 0);
        feedAll(x, -9, 9);
        check.due("one that is being captured", x.segment(0, 0), NO_SUCH);
        feedAll(x, 9);
        check.due("when it is complete", x.segment(0, 0), 1);
        x.drop(0);
        check.due("when it is dropped", x.segment(0, 0), NO_SUCH);
    }

    @Sentence("0 the number of the sample that is its trigger,")
    static void p06_trigger(Check check) {
        CaptureSegments x = with(PRE, 1, DEPTH, 2, HOLD, 0);
        feedAll(x, -9, 9);
        check.due("the second sample that came", x.segment(0, 0), 1);
        fill(x, 396);
        feedAll(x, -9, 9);
        check.due("the last sample of 400", x.segment(1, 0), 399);
        check.due("it is that", x.sample(399), x.sampleOf(1, 1));
        x.drop(0);
        check.due("numbers stay when a segment goes", x.segment(0, 0), 399);
        x.clear();
        feedAll(x, -9, 9);
        check.due("numbered from 0 again", x.segment(0, 0), 1);
    }

    @Sentence("1 its DEPTH, 2 its PRE,")
    static void p06_depthAndPre(Check check) {
        CaptureSegments x = with(PRE, 0, DEPTH, 1, HOLD, 0);
        feedAll(x, -9, 9);
        check.due("the least DEPTH", x.segment(0, 1), 1);
        check.due("the least PRE", x.segment(0, 2), 0);
        x.set(DEPTH, 32);
        x.set(PRE, 31);
        x.feed(-9, 31);
        feedAll(x, 9);
        check.due("the greatest DEPTH", x.segment(1, 1), 32);
        check.due("the greatest PRE", x.segment(1, 2), 31);
        check.due("the first one keeps its own", x.segment(0, 1), 1);
        check.due("the first one keeps its own", x.segment(0, 2), 0);
    }

    @Sentence("3 the kind of its trigger,")
    static void p06_kindOfItsTrigger(Check check) {
        CaptureSegments x = with(PRE, 0, DEPTH, 2, HOLD, 0, KIND, RUNTS);
        feedAll(x, -99, 0, -99);
        x.set(KIND, FALLS);
        feedAll(x, 99);
        check.due("a runt, though KIND was set while it was captured", x.segment(0, 3), 2);
        feedAll(x, 99, -99, -99);
        x.set(KIND, RISES);
        check.due("a fall, though KIND was set since", x.segment(1, 3), 1);
        feedAll(x, -99, 99, 99);
        check.due("a rise", x.segment(2, 3), 0);
        check.due("the first one stays a runt", x.segment(0, 3), 2);
    }

    @Sentence("4 the least sample and 1000,")
    static void p06_least(Check check) {
        check.due("at the first place", segmentOf(1, -70, 5, 6, 7).segment(0, 4), 930);
        check.due("at its trigger", segmentOf(0, 5, 6, 7, 8).segment(0, 4), 1005);
        check.due("at the last place", segmentOf(1, -70, 5, 6, -71).segment(0, 4), 929);
        check.due("none outside of it", segmentOf(1, -3, 5, 6, 7).segment(0, 4), 997);
        check.due("-100", segmentOf(1, -100, 5, 6, 7).segment(0, 4), 900);
        check.due("all are 100", segmentOf(0, 100, 100, 100).segment(0, 4), 1100);
        check.due("one sample", segmentOf(0, 42).segment(0, 4), 1042);
    }

    @Sentence("5 the greatest one and 1000,")
    static void p06_greatest(Check check) {
        check.due("at the first place", segmentOf(2, 70, -1, 5, 6).segment(0, 5), 1070);
        check.due("at its trigger", segmentOf(0, 8, 6, 7, 5).segment(0, 5), 1008);
        check.due("at the last place", segmentOf(1, -70, 5, 6, 71).segment(0, 5), 1071);
        check.due("none outside of it", segmentOf(1, -3, 5, 6, 7).segment(0, 5), 1007);
        check.due("none outside of it", amongGreaterOnes().segment(0, 5), 1006);
        check.due("100", segmentOf(1, -3, 100, 6, 7).segment(0, 5), 1100);
        check.due("all are below 0", segmentOf(1, -100, -99, -98).segment(0, 5), 902);
        check.due("one sample", segmentOf(0, -42).segment(0, 5), 958);
    }

    @Sentence("6 the sum of all and 10000,")
    static void p06_sum(Check check) {
        check.due("four", segmentOf(1, -3, 5, 6, 7).segment(0, 6), 10015);
        check.due("below 0", segmentOf(1, -100, -99, -98).segment(0, 6), 9703);
        check.due("one", segmentOf(0, 42).segment(0, 6), 10042);
        CaptureSegments x = with(DEPTH, 32, PRE, 31, HOLD, 0);
        x.feed(-100, 31);
        x.feed(100, 1);
        check.due("31 times -100, and 100", x.segment(0, 6), 7000);
        x = with(DEPTH, 32, PRE, 0, HOLD, 0);
        x.feed(-100, 1);
        x.feed(100, 32);
        check.due("the greatest there can be", x.segment(0, 6), 13200);
        // All that stand in a segment can be -100 only if its trigger is a fall to it.
        x = with(KIND, FALLS, LEVEL, -100, DEPTH, 32, PRE, 0, HOLD, 0);
        x.feed(100, 1);
        x.feed(-100, 32);
        check.due("the least there can be", x.segment(0, 6), 6800);
    }

    @Sentence("7 how many samples are greater than the one ahead of them in it")
    static void p06_ups(Check check) {
        check.due("the first one has none ahead of it in it", segmentOf(0, 42).segment(0, 7), 0);
        check.due("the first one has none ahead of it in it", segmentOf(0, 9, 8, 7).segment(0, 7), 0);
        check.due("as great is not greater", segmentOf(0, 9, 9, 9).segment(0, 7), 0);
        check.due("each but the first one", segmentOf(1, -9, -8, -7, -6).segment(0, 7), 3);
        check.due("the second one", segmentOf(1, -9, 8, 7, 6).segment(0, 7), 1);
        check.due("the last one", segmentOf(0, 8, 7, 6, 7).segment(0, 7), 1);
        check.due("not the one behind it", amongGreaterOnes().segment(0, 7), 1);
        check.due("up and down", segmentOf(2, 5, -4, 3, 2, 6, 6, 7).segment(0, 7), 3);
    }

    @Sentence("NO_SUCH if there is no such segment;")
    static void p06_noSuchSegment(Check check) {
        CaptureSegments x = bare();
        for (int what = 0; what <= 7; what++) {
            check.due("segment(0, " + what + ") of none", x.segment(0, what), NO_SUCH);
        }
        keep(x, 2);
        check.due("segment(-1, 0) of two", x.segment(-1, 0), NO_SUCH);
        check.due("segment(2, 0) of two", x.segment(2, 0), NO_SUCH);
        check.due("segment(5, 0) of two", x.segment(5, 0), NO_SUCH);
        for (int none : BEYOND) {
            check.due("segment(" + none + ", 0) of two", x.segment(none, 0), NO_SUCH);
            check.due("segment(" + none + ", 6) of two", x.segment(none, 6), NO_SUCH);
        }
        check.due("the last one", x.segment(1, 0), 3);
    }

    @Sentence("BAD_VALUE if what is out of range.")
    static void p06_whatOutOfRange(Check check) {
        CaptureSegments x = bare();
        keep(x, 1);
        check.due("segment(0, -1)", x.segment(0, -1), BAD_VALUE);
        check.due("segment(0, 8)", x.segment(0, 8), BAD_VALUE);
        for (int what : BEYOND) {
            check.due("segment(0, " + what + ")", x.segment(0, what), BAD_VALUE);
        }
        check.due("the last one", x.segment(0, 7), 0);
    }

    // ---- 7

    @Sentence({"Returns a sample of a segment, and 1000 more.", "`place`: 0 for its first one"})
    static void p07_sampleOfASegment(Check check) {
        CaptureSegments x = segmentOf(1, -100, 0, 100);
        check.due("the first one, the least there is", x.sampleOf(0, 0), 900);
        check.due("its trigger", x.sampleOf(0, 1), 1000);
        check.due("the last one, the greatest there is", x.sampleOf(0, 2), 1100);
        x = bare();
        feedAll(x, -9, 5);
        check.due("the only one", x.sampleOf(0, 0), 1005);
    }

    @Sentence("NO_SUCH if there is no such segment")
    static void p07_noSuchSegment(Check check) {
        CaptureSegments x = with(PRE, 0, DEPTH, 2, HOLD, 0);
        check.due("of none", x.sampleOf(0, 0), NO_SUCH);
        feedAll(x, -9, 9);
        check.due("of one that is being captured", x.sampleOf(0, 0), NO_SUCH);
        feedAll(x, 9);
        check.due("of one", x.sampleOf(0, 0), 1009);
        check.due("sampleOf(-1, 0)", x.sampleOf(-1, 0), NO_SUCH);
        check.due("sampleOf(1, 0)", x.sampleOf(1, 0), NO_SUCH);
        for (int none : BEYOND) {
            check.due("sampleOf(" + none + ", 0)", x.sampleOf(none, 0), NO_SUCH);
        }
        x.drop(0);
        check.due("of one that was dropped", x.sampleOf(0, 0), NO_SUCH);
    }

    @Sentence("or place.")
    static void p07_noSuchPlace(Check check) {
        CaptureSegments x = segmentOf(1, -3, 5, 6);
        check.due("ahead of the first one", x.sampleOf(0, -1), NO_SUCH);
        check.due("the last one", x.sampleOf(0, 2), 1006);
        check.due("behind the last one", x.sampleOf(0, 3), NO_SUCH);
        for (int none : BEYOND) {
            check.due("sampleOf(0, " + none + ")", x.sampleOf(0, none), NO_SUCH);
        }
        x.set(DEPTH, 9);
        check.due("DEPTH of now is nothing to it", x.sampleOf(0, 3), NO_SUCH);
    }

    // ---- 8

    @Sentence("Returns a sample that came, and 1000 more.")
    static void p08_sampleThatCame(Check check) {
        CaptureSegments x = new CaptureSegments();
        feedAll(x, -100, 0, 100);
        check.due("the least there is", x.sample(0), 900);
        check.due("0", x.sample(1), 1000);
        check.due("the greatest there is", x.sample(2), 1100);
        fill(x, 396);
        feedAll(x, 7);
        check.due("the last one of 400", x.sample(399), 1007);
    }

    @Sentence("NO_SUCH if there is no such number.")
    static void p08_noSuchNumber(Check check) {
        CaptureSegments x = new CaptureSegments();
        check.due("of none", x.sample(0), NO_SUCH);
        fill(x, 3);
        check.due("the last one", x.sample(2), 1000);
        check.due("sample(3)", x.sample(3), NO_SUCH);
        check.due("sample(-1)", x.sample(-1), NO_SUCH);
        for (int none : BEYOND) {
            check.due("sample(" + none + ")", x.sample(none), NO_SUCH);
        }
        fill(x, 397);
        check.due("the last one of 400", x.sample(399), 1000);
        check.due("sample(400)", x.sample(400), NO_SUCH);
        x.undo();
        check.due("one that was undone", x.sample(399), NO_SUCH);
        x.clear();
        check.due("of none again", x.sample(0), NO_SUCH);
    }

    // ---- 9

    @Sentence("0 samples,")
    static void p09_samples(Check check) {
        CaptureSegments x = new CaptureSegments();
        check.due("none", x.count(0), 0);
        fill(x, 400);
        check.due("all", x.count(0), 400);
        x.feed(1, 1);
        check.due("one that was refused", x.count(0), 400);
        x.clear();
        check.due("none again", x.count(0), 0);
    }

    @Sentence("1 segments that are kept,")
    static void p09_kept(Check check) {
        CaptureSegments x = bare(KEEP, 6, OVER, 1);
        check.due("none", x.count(1), 0);
        for (int i = 1; i <= 8; i++) {
            feedAll(x, -9);
            check.due("not yet", x.count(1), Math.min(i - 1, 6));
            feedAll(x, 9);
            check.due(i + " were captured", x.count(1), Math.min(i, 6));
        }
        x = with(PRE, 0, DEPTH, 2, HOLD, 0);
        feedAll(x, -9, 9);
        check.due("one that is being captured is not kept", x.count(1), 0);
    }

    @Sentence({"2 the phase,", "3 how the detector is,"})
    static void p09_phaseAndDetector(Check check) {
        CaptureSegments x = with(PRE, 0, DEPTH, 2, HOLD, 1, KEEP, 1, KIND, RUNTS);
        check.counts("too few, off", x, 2, 0, 0);
        feedAll(x, -99);
        check.counts("ready, armed", x, 2, 1, 1);
        feedAll(x, 0);
        check.counts("ready, inside", x, 2, 1, 2);
        feedAll(x, -99);
        check.counts("captures, armed", x, 2, 3, 1);
        feedAll(x, 99);
        check.counts("no room, off", x, 2, 2, 0);
    }

    @Sentence("4 firings so far,")
    static void p09_firings(Check check) {
        CaptureSegments x = bare(KEEP, 1, HYST, 0);
        feedAll(x, 0, 0);
        check.due("none", x.count(4), 0);
        feedAll(x, -1, 0);
        check.due("a trigger", x.count(4), 1);
        feedAll(x, -1, 0);
        check.due("and one that was ignored", x.count(4), 2);
        x.drop(0);
        x.clear();
        check.due("so far: also behind clear()", x.count(4), 2);
    }

    @Sentence("5 triggers so far,")
    static void p09_triggers(Check check) {
        CaptureSegments x = with(PRE, 0, DEPTH, 2, HOLD, 0, HYST, 0);
        feedAll(x, -1);
        check.due("none", x.count(5), 0);
        feedAll(x, 0);
        check.due("with the trigger, not with the last sample", x.count(5), 1);
        x.clear();
        check.due("so far: also if its segment is forgotten", x.count(5), 1);
        feedAll(x, -1, 0, -1, 0);
        check.due("also the next ones", x.count(5), 3);
    }

    @Sentence("6 firings that were ignored so far,")
    static void p09_ignored(Check check) {
        CaptureSegments x = with(PRE, 0, DEPTH, 2, HOLD, 2, KEEP, 1, HYST, 0);
        feedAll(x, -1, 0);
        check.due("too few", x.count(6), 1);
        feedAll(x, -1, 0);
        check.due("a trigger is not ignored", x.count(6), 1);
        feedAll(x, -1, 0);
        check.due("no room", x.count(6), 2);
        x.clear();
        check.due("so far: also behind clear()", x.count(6), 2);
    }

    @Sentence("7 segments that were complete so far,")
    static void p09_complete(Check check) {
        CaptureSegments x = with(PRE, 0, DEPTH, 2, HOLD, 0, KEEP, 1, OVER, 1, HYST, 0);
        feedAll(x, -1, 0);
        check.due("not yet", x.count(7), 0);
        feedAll(x, 0);
        check.due("complete", x.count(7), 1);
        feedAll(x, -1, 0, 0);
        check.due("also those that were written over", x.count(7), 2);
        x.drop(0);
        check.due("also those that were dropped", x.count(7), 2);
        x.clear();
        check.due("so far: also behind clear()", x.count(7), 2);
    }

    @Sentence("8 samples that came since the last one was complete (or since the beginning),")
    static void p09_since(Check check) {
        CaptureSegments x = with(PRE, 0, DEPTH, 3, HOLD, 0, HYST, 0);
        check.due("at the beginning", x.count(8), 0);
        feedAll(x, 5, 5, -1);
        check.due("since the beginning", x.count(8), 3);
        feedAll(x, 0);
        check.due("also its trigger", x.count(8), 4);
        feedAll(x, 0);
        check.due("also those behind it", x.count(8), 5);
        feedAll(x, 0);
        check.due("complete", x.count(8), 0);
        feedAll(x, 0);
        check.due("since it was complete", x.count(8), 1);
        x.drop(0);
        check.due("also if it is dropped", x.count(8), 1);
        x.clear();
        check.due("the beginning again", x.count(8), 0);
        fill(x, 400);
        check.due("all", x.count(8), 400);
    }

    @Sentence("9 samples that the one that is being captured has yet to get (0 if there is none),")
    static void p09_yetToGet(Check check) {
        CaptureSegments x = with(PRE, 0, DEPTH, 32, HOLD, 0);
        check.due("there is none", x.count(9), 0);
        feedAll(x, -9);
        check.due("there is none", x.count(9), 0);
        for (int yet = 31; yet >= 0; yet--) {
            feedAll(x, 9);
            check.due("yet to get", x.count(9), yet);
        }
        feedAll(x, 9);
        check.due("there is none any more", x.count(9), 0);
        x = with(PRE, 5, DEPTH, 7, HOLD, 0);
        x.feed(-9, 5);
        feedAll(x, 9);
        check.due("those ahead of its trigger it has", x.count(9), 1);
        x = bare();
        feedAll(x, -9, 9);
        check.due("complete with its trigger", x.count(9), 0);
    }

    @Sentence("10 to 19 the settings, and 1000 more,")
    static void p09_settings(Check check) {
        int[][] ends = {{0, 2}, {-100, 100}, {0, 50}, {-100, 19}, {-19, 100}, {3, 32}, {0, 7}, {0, 60}, {1, 6}, {0, 1}};
        for (int setting = KIND; setting <= OVER; setting++) {
            for (int value : ends[setting]) {
                CaptureSegments x = with(setting, value);
                check.due("count(" + (10 + setting) + ") with " + value, x.count(10 + setting), value + 1000);
            }
        }
    }

    @Sentence("20 the length of the pad,")
    static void p09_lengthOfThePad(Check check) {
        CaptureSegments x = new CaptureSegments();
        check.due("empty", x.count(20), 0);
        putText(x, "1".repeat(79));
        check.due("79", x.count(20), 79);
        putText(x, "1");
        check.due("full", x.count(20), 80);
        putText(x, "1");
        check.due("full", x.count(20), 80);
        x.wipe();
        check.due("empty again", x.count(20), 0);
    }

    @Sentence("21 how many changes can be undone")
    static void p09_howManyCanBeUndone(Check check) {
        CaptureSegments x = new CaptureSegments();
        check.due("none", x.count(21), 0);
        for (int i = 1; i <= 8; i++) {
            x.clear();
            check.due("at most 6", x.count(21), Math.min(i, 6));
        }
        for (int left = 5; left >= 0; left--) {
            x.undo();
            check.due("one less", x.count(21), left);
        }
        x.undo();
        check.due("none", x.count(21), 0);
    }

    @Sentence("BAD_VALUE if what is out of range.")
    static void p09_whatOutOfRange(Check check) {
        CaptureSegments x = new CaptureSegments();
        check.due("count(-1)", x.count(-1), BAD_VALUE);
        check.due("count(22)", x.count(22), BAD_VALUE);
        for (int what : BEYOND) {
            check.due("count(" + what + ")", x.count(what), BAD_VALUE);
        }
        check.due("the first one", x.count(0), 0);
        check.due("the last one", x.count(21), 0);
    }

    // ---- 10

    @Sentence("Tells how often the detector would fire if all samples so far came anew,")
    static void p10_allSamplesAnew(Check check) {
        CaptureSegments x = with(HYST, 0);
        check.due("no samples", x.fires(0), 0);
        feedAll(x, -1, 0);
        check.due("two samples", x.fires(0), 1);
        x.set(LEVEL, 50);
        feedAll(x, 60);
        check.due("fires only as it was then", x.count(4), 1);
        check.due("anew: the detector is off only at first", x.fires(50), 1);
        x.feed(-1, 1);
        check.due("it is armed now", x.count(3), 1);
        check.due("anew: off at first, though armed now", x.fires(-1), 0);
        fill(x, 394);
        feedAll(x, -100, 100);
        check.due("400", x.count(0), 400);
        check.due("the last ones too", x.fires(100), 1);
        check.due("the first ones too", x.fires(0), 3);
        x.clear();
        check.due("cleared: no samples", x.fires(0), 0);
    }

    @Sentence("and it had the settings of now,")
    static void p10_settingsOfNow(Check check) {
        CaptureSegments x = with(HYST, 5);
        feedAll(x, 10, 6, 10, 5, 10, 4, 10);
        check.due("HYST 5", x.fires(10), 1);
        x.set(HYST, 4);
        check.due("HYST 4", x.fires(10), 2);
        x.set(HYST, 3);
        check.due("HYST 3", x.fires(10), 3);
        x.set(KIND, FALLS);
        check.due("FALLS", x.fires(6), 3);
        x.set(KIND, RUNTS);
        check.due("RUNTS, below HIGH", x.fires(7), 2);
        x.set(HIGH, 10);
        check.due("RUNTS, up to HIGH", x.fires(7), 0);
    }

    @Sentence("but another LEVEL (for RUNTS another LOW, in its place).")
    static void p10_anotherLevel(Check check) {
        CaptureSegments x = with(HYST, 0, LEVEL, 77, LOW, -50);
        feedAll(x, -5, 5, -5);
        check.due("rises: LEVEL is another", x.fires(0), 1);
        check.due("LEVEL itself", x.fires(77), 0);
        x.set(KIND, FALLS);
        check.due("falls: LEVEL is another", x.fires(0), 1);
        x.set(KIND, RUNTS);
        check.due("runts: LOW is another", x.fires(0), 1);
        check.due("LOW itself", x.fires(-50), 0);
        check.due("LEVEL stays", x.count(11), 1077);
        check.due("LOW stays", x.count(13), 950);
        check.due("no firing is counted", x.count(4), 0);
    }

    @Sentence("`level`: -100 to 100")
    static void p10_levels(Check check) {
        CaptureSegments x = with(HYST, 0);
        feedAll(x, -100, -99, 99, 100);
        check.due("the least: nothing is below it", x.fires(-100), 0);
        check.due("the next", x.fires(-99), 1);
        check.due("the greatest", x.fires(100), 1);
        x.set(KIND, FALLS);
        feedAll(x, 99, -99, -100);
        check.due("the greatest: nothing is above it", x.fires(100), 0);
        check.due("the next", x.fires(99), 1);
        check.due("the least", x.fires(-100), 1);
    }

    @Sentence("Returns how often;")
    static void p10_howOften(Check check) {
        CaptureSegments x = with(HYST, 0);
        for (int i = 0; i < 200; i++) {
            feedAll(x, -100, 100);
        }
        check.due("never", x.fires(-100), 0);
        check.due("with each second one of 400", x.fires(0), 200);
        check.due("at the greatest level too", x.fires(100), 200);
    }

    @Sentence("BAD_VALUE if level is out of range;")
    static void p10_levelOutOfRange(Check check) {
        for (int kind = RISES; kind <= RUNTS; kind++) {
            CaptureSegments x = with(KIND, kind);
            feedAll(x, -99, 99, -99);
            check.due("fires(-101)", x.fires(-101), BAD_VALUE);
            check.due("fires(101)", x.fires(101), BAD_VALUE);
            for (int level : BEYOND) {
                check.due("fires(" + level + ")", x.fires(level), BAD_VALUE);
            }
        }
    }

    @Sentence("NOT_POSSIBLE for RUNTS if HIGH is not above level.")
    static void p10_runtsNotBelowHigh(Check check) {
        CaptureSegments x = with(KIND, RUNTS, HIGH, 15);
        feedAll(x, -5, 14, -5);
        check.due("one below HIGH", x.fires(14), 1);
        check.due("above LOW, below HIGH", x.fires(0), 1);
        check.due("at HIGH", x.fires(15), NOT_POSSIBLE);
        check.due("above HIGH", x.fires(16), NOT_POSSIBLE);
        check.due("the greatest", x.fires(100), NOT_POSSIBLE);
        x.set(HIGH, 100);
        check.due("HIGH is the greatest", x.fires(99), 0);
        check.due("at it", x.fires(100), NOT_POSSIBLE);
        x.set(LOW, -100);
        x.set(HIGH, -99);
        check.due("HIGH is the least there can be", x.fires(-100), 0);
        check.due("at it", x.fires(-99), NOT_POSSIBLE);
        x.set(KIND, FALLS);
        check.due("not for FALLS", x.fires(0), 1);
        x.set(KIND, RISES);
        check.due("not for RISES", x.fires(100), 0);
    }

    // ---- 11

    @Sentence("Finds the level with which fires() is greatest,")
    static void p11_greatest(Check check) {
        CaptureSegments x = with(HYST, 0);
        feedAll(x, 99, 100, 99, 100);
        check.due("the greatest level", x.bestLevel(0), 1100);
        x.clear();
        feedAll(x, -100, -99, -100, -99);
        check.due("the least level at which a rise can be", x.bestLevel(0), 901);
        x.set(KIND, FALLS);
        check.due("the least level", x.bestLevel(0), 900);
        check.due("it fires once", x.bestLevel(1), 1);
        x.clear();
        feedAll(x, 100, 99, 100, 99);
        check.due("the greatest level at which a fall can be", x.bestLevel(0), 1099);
        x.set(KIND, RUNTS);
        x.set(HIGH, 100);
        x.clear();
        feedAll(x, 98, 99, 98);
        check.due("runts: one below HIGH", x.bestLevel(0), 1099);
        x.set(HIGH, 99);
        check.due("runts: not at HIGH", x.bestLevel(1), 0);
        x.clear();
        feedAll(x, -100, -99, -100);
        check.due("runts: the least level at which one can be", x.bestLevel(0), 901);
        x.set(LOW, -100);
        x.set(HIGH, -98);
        check.due("runts: the only level but the least", x.bestLevel(0), 901);
        x.set(HIGH, -99);
        check.due("runts: the least level alone", x.bestLevel(0), 900);
    }

    @Sentence("of several the least one.")
    static void p11_theLeastOfSeveral(Check check) {
        CaptureSegments x = with(HYST, 0);
        check.due("all are alike: no samples", x.bestLevel(0), 900);
        feedAll(x, 50, 60);
        check.due("51 to 60: once", x.bestLevel(0), 1051);
        feedAll(x, 20, 30, 20, 30, 50, 60);
        check.due("51 to 60: twice", x.fires(51), 2);
        check.due("21 to 30: twice, too", x.bestLevel(0), 1021);
        x = new CaptureSegments();
        fill(x, 400);
        check.due("all are alike: none fires", x.bestLevel(0), 900);
        x.set(KIND, FALLS);
        check.due("all are alike: none falls", x.bestLevel(0), 900);
        x.set(KIND, RUNTS);
        check.due("all are alike: no runt", x.bestLevel(0), 900);
    }

    @Sentence("0 the level and 1000,")
    static void p11_level(Check check) {
        CaptureSegments x = with(HYST, 0);
        feedAll(x, -1, 0);
        check.due("0", x.bestLevel(0), 1000);
        x.clear();
        feedAll(x, -2, -1);
        check.due("below 0", x.bestLevel(0), 999);
        x.set(HYST, 1);
        check.due("none fires: the least", x.bestLevel(0), 900);
        check.due("it is not set", x.count(11), 1000);
    }

    @Sentence("1 how often it would fire")
    static void p11_howOften(Check check) {
        CaptureSegments x = with(HYST, 0);
        check.due("never: no samples", x.bestLevel(1), 0);
        for (int i = 0; i < 200; i++) {
            feedAll(x, 7, 8);
        }
        check.due("200 of 400", x.bestLevel(1), 200);
        x.set(HYST, 1);
        check.due("never", x.bestLevel(1), 0);
    }

    @Sentence("BAD_VALUE if what is neither 0 nor 1.")
    static void p11_whatNeither0Nor1(Check check) {
        CaptureSegments x = new CaptureSegments();
        check.due("bestLevel(-1)", x.bestLevel(-1), BAD_VALUE);
        check.due("bestLevel(2)", x.bestLevel(2), BAD_VALUE);
        for (int what : BEYOND) {
            check.due("bestLevel(" + what + ")", x.bestLevel(what), BAD_VALUE);
        }
    }

    // ---- 12

    @Sentence("Returns how unlike two segments are: the sum of the differences (without signs) of their samples,")
    static void p12_sum(Check check) {
        CaptureSegments x = with(PRE, 1, DEPTH, 3, HOLD, 0);
        feedAll(x, -9, 5, 7);
        feedAll(x, -3, 1, 9);
        check.due("below, above, below", x.unlike(0, 1), 6 + 4 + 2);
        check.due("the other way", x.unlike(1, 0), 12);
        check.due("itself", x.unlike(0, 0), 0);
        x = with(PRE, 0, DEPTH, 32, HOLD, 0, KIND, FALLS);
        x.feed(100, 1);
        x.feed(-100, 32);
        x.set(KIND, RISES);
        x.feed(-100, 1);
        x.feed(100, 32);
        check.due("the greatest there can be", x.unlike(0, 1), 6400);
    }

    @Sentence("with their triggers at one place: of as many places ahead of it as both have,")
    static void p12_ahead(Check check) {
        CaptureSegments x = with(PRE, 0, DEPTH, 1, HOLD, 0);
        feedAll(x, -9, 5);
        x.set(DEPTH, 2);
        x.set(PRE, 1);
        feedAll(x, -9, 7);
        x.set(DEPTH, 4);
        x.set(PRE, 3);
        feedAll(x, 60, 70, -4, 8);
        check.due("none ahead, one ahead: the triggers alone", x.unlike(0, 1), 2);
        check.due("none ahead, three ahead: the triggers alone", x.unlike(0, 2), 3);
        check.due("one ahead, three ahead: one", x.unlike(1, 2), 5 + 1);
        check.due("three ahead, one ahead: one", x.unlike(2, 1), 5 + 1);
        check.due("three ahead, none ahead: the triggers alone", x.unlike(2, 0), 3);
    }

    @Sentence("the trigger, and as many behind it as both have.")
    static void p12_behind(Check check) {
        CaptureSegments x = with(PRE, 0, DEPTH, 1, HOLD, 0);
        feedAll(x, -9, 5);
        x.set(DEPTH, 2);
        feedAll(x, -9, 7, 30);
        x.set(DEPTH, 4);
        feedAll(x, -4, 8, 40, 50, 60);
        check.due("none behind, one behind: the triggers alone", x.unlike(0, 1), 2);
        check.due("none behind, three behind: the triggers alone", x.unlike(0, 2), 3);
        check.due("one behind, three behind: one", x.unlike(1, 2), 1 + 10);
        check.due("three behind, one behind: one", x.unlike(2, 1), 1 + 10);
        check.due("three behind, none behind: the triggers alone", x.unlike(2, 0), 3);
    }

    @Sentence("NO_SUCH if there is no such segment.")
    static void p12_noSuchSegment(Check check) {
        CaptureSegments x = bare();
        check.due("of none", x.unlike(0, 0), NO_SUCH);
        keep(x, 2);
        for (int none : new int[] {-1, 2, 5, LOWEST, HIGHEST, 1 << 30}) {
            check.due("unlike(0, " + none + ")", x.unlike(0, none), NO_SUCH);
            check.due("unlike(" + none + ", 0)", x.unlike(none, 0), NO_SUCH);
            check.due("unlike(" + none + ", " + none + ")", x.unlike(none, none), NO_SUCH);
        }
        check.due("the last one", x.unlike(0, 1), 1);
    }

    // ---- 13

    @Sentence("Finds the segment that is the least unlike another one,")
    static void p13_leastUnlike(Check check) {
        CaptureSegments x = bare(KEEP, 6);
        for (int value : new int[] {10, 40, 90, 55, 16, 91}) {
            feedAll(x, -99, value);
        }
        int[] nearest = {4, 3, 5, 1, 0, 2};
        for (int segment = 0; segment < 6; segment++) {
            check.due("nearest(" + segment + ")", x.nearest(segment), nearest[segment]);
        }
    }

    @Sentence("of several the lowest one")
    static void p13_theLowestOfSeveral(Check check) {
        CaptureSegments x = bare(KEEP, 6);
        for (int value : new int[] {20, 30, 10, 30, 20, 10}) {
            feedAll(x, -99, value);
        }
        check.due("the same one", x.nearest(3), 1);
        check.due("the same one", x.nearest(4), 0);
        x.drop(4);
        check.due("four are as unlike", x.nearest(0), 1);
        x.set(KEEP, 3);
        check.due("30 has but two, as unlike", x.nearest(1), 0);
    }

    @Sentence("(not that one itself).")
    static void p13_notItself(Check check) {
        CaptureSegments x = bare(KEEP, 2);
        keep(x, 2);
        check.due("the other one of two", x.nearest(0), 1);
        check.due("the other one of two", x.nearest(1), 0);
        x.drop(0);
        check.due("not the one alone", x.nearest(0), NONE);
    }

    @Sentence("NO_SUCH if there is no such segment;")
    static void p13_noSuchSegment(Check check) {
        CaptureSegments x = bare();
        check.due("of none", x.nearest(0), NO_SUCH);
        keep(x, 2);
        check.due("nearest(-1)", x.nearest(-1), NO_SUCH);
        check.due("nearest(2)", x.nearest(2), NO_SUCH);
        for (int none : BEYOND) {
            check.due("nearest(" + none + ")", x.nearest(none), NO_SUCH);
        }
    }

    @Sentence("NONE if there is no other one.")
    static void p13_noOtherOne(Check check) {
        CaptureSegments x = with(PRE, 0, DEPTH, 2, HOLD, 0);
        feedAll(x, -9, 9, 9);
        check.due("one is kept", x.nearest(0), NONE);
        feedAll(x, -9, 9);
        check.due("one is kept, one captured", x.nearest(0), NONE);
        feedAll(x, 9);
        check.due("two are kept", x.nearest(0), 1);
        x.set(KEEP, 1);
        check.due("one is kept again", x.nearest(0), NONE);
    }
}
