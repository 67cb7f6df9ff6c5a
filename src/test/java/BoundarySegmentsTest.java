/** Triggers, segments and the phase: "Segments" of the document. */
public final class BoundarySegmentsTest extends Scopes {
    public static void main(String[] args) {
        Boundaries.main(BoundarySegmentsTest.class);
    }

    @Sentence("A sample with which the detector fires is a trigger, if no segment is being captured,")
    static void segments_noTriggerWhileCaptured(Check check) {
        CaptureSegments x = with(PRE, 0, HOLD, 0, DEPTH, 5, HYST, 0);
        feedAll(x, -1, 0, -1, 0);
        check.counts("fires while captured: no trigger", x, 4, 2, 1, 1);
        feedAll(x, -1, -1);
        check.counts("complete", x, 4, 2, 1, 1, 1);
        feedAll(x, 0);
        check.counts("fires with the next sample: a trigger", x, 4, 3, 2, 1, 1);
        check.due("the first trigger", x.segment(0, 0), 1);
    }

    @Sentence("if at least as many samples as PRE,")
    static void segments_asManySamplesAsPre(Check check) {
        for (int pre = 1; pre <= 31; pre++) {
            CaptureSegments x = with(HOLD, 0, DEPTH, 32, PRE, pre);
            x.feed(-99, pre - 1);
            feedAll(x, -99, 99);
            check.counts("PRE " + pre + ", as many ahead", x, 4, 1, 1, 0);
            x = with(HOLD, 0, DEPTH, 32, PRE, pre, HYST, 0);
            if (pre > 1) {
                x.feed(-99, pre - 1);
                feedAll(x, 99);
                check.counts("PRE " + pre + ", one less ahead", x, 4, 1, 0, 1);
            }
        }
        CaptureSegments x = with(HOLD, 0, PRE, 3, DEPTH, 4, HYST, 0);
        feedAll(x, -1, -1, -1, 0);
        check.due("complete", x.count(7), 1);
        feedAll(x, -1, -1, 0);
        check.counts("two came since: no trigger", x, 4, 2, 1, 1);
        feedAll(x, -1, 0);
        check.counts("four came since: a trigger", x, 4, 3, 2, 1);
        check.due("they are its own samples", x.segment(1, 0), 8);
    }

    @Sentence("and as HOLD, came since the last segment was complete")
    static void segments_asManySamplesAsHold(Check check) {
        for (int hold : new int[] {2, 3, 59, 60}) {
            for (int less = 0; less <= 1; less++) {
                CaptureSegments x = bare(HYST, 0);
                feedAll(x, -1, 0);
                x.set(HOLD, hold);
                x.feed(-1, hold - less);
                feedAll(x, 0);
                check.counts("HOLD " + hold + ", " + less + " less", x, 4, 2, 2 - less, less, 2 - less);
            }
        }
        CaptureSegments x = with(PRE, 0, DEPTH, 3, HOLD, 3, HYST, 0);
        feedAll(x, -1, -1, -1, 0, 0, -1);
        check.due("complete", x.count(7), 1);
        feedAll(x, -1, -1, 0);
        check.counts("since it was complete, not since its trigger", x, 4, 2, 1, 1);
        x = bare(HYST, 0);
        feedAll(x, -1, 0);
        x.feed(-1, 1);
        check.due("HOLD 0: the next firing is a trigger", x.feed(0, 1), 1);
        x = with(PRE, 2, HOLD, 5);
        feedAll(x, -9, -9, -9, -9, 9);
        check.counts("PRE would be enough, HOLD is not", x, 4, 1, 0, 1);
        x = with(PRE, 5, HOLD, 2);
        feedAll(x, -9, -9, -9, -9, 9);
        check.counts("HOLD would be enough, PRE is not", x, 4, 1, 0, 1);
    }

    @Sentence("(or since the beginning; the trigger does not count),")
    static void segments_triggerDoesNotCount(Check check) {
        CaptureSegments x = with(PRE, 0, HOLD, 3);
        feedAll(x, -9, -9, 9);
        check.counts("the third sample: two came ahead of it", x, 4, 1, 0, 1);
        x = with(PRE, 0, HOLD, 3);
        feedAll(x, -9, -9, -9, 9);
        check.counts("the fourth sample: three came ahead of it", x, 4, 1, 1, 0);
        x = with(PRE, 0, HOLD, 3);
        feedAll(x, -9, -9, -9, -9);
        x.clear();
        feedAll(x, -9, -9, 9);
        check.counts("behind clear(): two came", x, 4, 1, 0, 1);
    }

    @Sentence("and if there is room: fewer than KEEP segments are kept, or OVER is 1.")
    static void segments_room(Check check) {
        for (int most = 1; most <= 6; most++) {
            CaptureSegments x = bare(KEEP, most);
            keep(x, most - 1);
            feedAll(x, -99, 50);
            check.counts("KEEP " + most + ", one less are kept", x, 4, most, most, 0);
            feedAll(x, -99, 51);
            check.counts("KEEP " + most + ", as many are kept", x, 4, most + 1, most, 1);
            x.set(OVER, 1);
            feedAll(x, -99, 52);
            check.counts("KEEP " + most + ", OVER is 1", x, 4, most + 2, most + 1, 1);
            x.set(OVER, 0);
            x.drop(0);
            feedAll(x, -99, 53);
            check.counts("KEEP " + most + ", one is dropped", x, 4, most + 3, most + 2, 1);
        }
    }

    @Sentence("Otherwise the firing is ignored.")
    static void segments_ignored(Check check) {
        CaptureSegments x = with(PRE, 0, HOLD, 3, DEPTH, 4, KEEP, 1, HYST, 0);
        feedAll(x, -1, 0);
        check.counts("too few: off, fired, ignored", x, 3, 0, 1, 0, 1, 0, 2, 0);
        feedAll(x, -1, 0, -1, 0);
        check.counts("captured: off, fired, ignored", x, 3, 0, 3, 1, 2, 0, 6, 1);
        feedAll(x, 0, -1, -1, -1, 0);
        check.counts("no room: off, fired, ignored", x, 3, 0, 4, 1, 3, 1, 4, 0);
        check.due("no segment by that", x.count(1), 1);
    }

    @Sentence("A segment has the PRE samples ahead of its trigger, the trigger, and the samples behind it, DEPTH all together.")
    static void segments_depthAllTogether(Check check) {
        int[][] depthAndPre = {{1, 0}, {2, 0}, {2, 1}, {3, 1}, {31, 30}, {32, 0}, {32, 15}, {32, 31}};
        for (int[] each : depthAndPre) {
            int depth = each[0];
            int pre = each[1];
            CaptureSegments x = with(PRE, 0, DEPTH, depth, PRE, pre, HOLD, 0);
            String when = "DEPTH " + depth + ", PRE " + pre;
            for (int i = 40; i > 0; i--) {
                x.feed(-i, 1);
            }
            int trigger = x.count(0);
            for (int i = 0; i < depth - pre - 1; i++) {
                check.due(when + ": not complete", x.feed(i, 1), 0);
            }
            check.due(when + ": complete", x.feed(depth - pre - 1, 1), 1);
            feedAll(x, 90, 91);
            check.due(when + ": trigger", x.segment(0, 0), trigger);
            for (int place = 0; place < depth; place++) {
                check.due(when + ": place " + place, x.sampleOf(0, place), 1000 + place - pre);
            }
            check.due(when + ": no place ahead", x.sampleOf(0, -1), NO_SUCH);
            check.due(when + ": no place behind", x.sampleOf(0, depth), NO_SUCH);
        }
    }

    @Sentence("It is being captured from its trigger on, until its last sample has come;")
    static void segments_capturedUntilItsLastSample(Check check) {
        CaptureSegments x = with(PRE, 0, HOLD, 0, DEPTH, 3, HYST, 0);
        feedAll(x, -1);
        check.counts("ahead of its trigger", x, 1, 0, 1);
        feedAll(x, 0);
        check.counts("with its trigger", x, 1, 0, 3);
        feedAll(x, -1);
        check.counts("ahead of its last sample", x, 1, 0, 3);
        check.due("the detector fires with its last sample", x.feed(0, 1), 1);
        check.counts("which was captured still: ignored", x, 1, 1, 1, 0, 2, 1, 1, 1, 0, 0);
        feedAll(x, -1, 0);
        check.counts("the next one is a trigger", x, 1, 1, 3, 0, 3, 2, 1, 1, 2, 2);
    }

    @Sentence("then it is complete (at once, if the trigger is its last one), and kept;")
    static void segments_completeAtOnce(Check check) {
        CaptureSegments x = with(PRE, 3, DEPTH, 4, HOLD, 0);
        feedAll(x, -9, -8, -7);
        check.due("the trigger is its last one", x.feed(6, 1), 1);
        check.counts("kept, not captured any more", x, 1, 1, 0, 0, 1, 1, 0, 1, 0, 0);
        check.due("the first one of it", x.sampleOf(0, 0), 991);
        check.due("the last one of it", x.sampleOf(0, 3), 1006);
        x = with(PRE, 2, DEPTH, 4, HOLD, 0);
        feedAll(x, -9, -8);
        check.due("the trigger is the last but one", x.feed(6, 1), 0);
        check.counts("captured", x, 1, 0, 3, 0, 1, 1, 0, 0, 3, 1);
        check.due("the last one", x.feed(6, 1), 1);
        check.counts("kept", x, 1, 1, 0, 0, 1, 1, 0, 1, 0, 0);
    }

    @Sentence("if there are KEEP already, the oldest one goes first.")
    static void segments_theOldestOneGoesFirst(Check check) {
        for (int most = 1; most <= 6; most++) {
            CaptureSegments x = bare(KEEP, most, OVER, 1);
            keep(x, most);
            check.due("KEEP " + most + ": all are kept", x.sampleOf(0, 0), 1001);
            feedAll(x, -99, 77);
            check.due("KEEP " + most + ": no more", x.count(1), most);
            check.due("KEEP " + most + ": the oldest one went", x.sampleOf(0, 0), most == 1 ? 1077 : 1002);
            check.due("KEEP " + most + ": the new one is the last", x.sampleOf(most - 1, 0), 1077);
        }
        CaptureSegments x = with(PRE, 0, DEPTH, 2, HOLD, 0, KEEP, 2);
        feedAll(x, -99, 1, 1, -99, 2);
        x.set(KEEP, 1);
        check.counts("KEEP is less, one is kept, one captured", x, 1, 1, 3);
        check.due("it stays until the new one is complete", x.sampleOf(0, 0), 1001);
        check.due("complete", x.feed(2, 1), 1);
        check.due("the new one alone", x.sampleOf(0, 0), 1002);
        check.due("the new one alone", x.count(1), 1);
        x = with(PRE, 0, DEPTH, 2, HOLD, 0, KEEP, 1, OVER, 1);
        feedAll(x, -99, 1, 1, -99, 2);
        x.set(OVER, 0);
        check.due("OVER is 0 again: it is kept all the same", x.feed(2, 1), 1);
        check.due("the new one alone", x.sampleOf(0, 0), 1002);
        check.due("the new one alone", x.count(1), 1);
    }

    @Sentence("Segments are numbered from 0, the oldest one that is kept first.")
    static void segments_theOldestOneFirst(Check check) {
        CaptureSegments x = bare(KEEP, 6, OVER, 1);
        keep(x, 8);
        for (int segment = 0; segment < 6; segment++) {
            check.due("segment " + segment + " of six", x.sampleOf(segment, 0), 1003 + segment);
        }
        x.drop(0);
        check.due("the oldest one dropped", x.sampleOf(0, 0), 1004);
        x.drop(1);
        check.due("one in the middle dropped", x.sampleOf(0, 0), 1004);
        check.due("one in the middle dropped", x.sampleOf(1, 0), 1006);
        check.due("one in the middle dropped", x.sampleOf(3, 0), 1008);
        check.due("one in the middle dropped", x.sampleOf(4, 0), NO_SUCH);
    }

    @Sentence("A segment has the DEPTH and the PRE that there were at its trigger.")
    static void segments_depthAndPreAtItsTrigger(Check check) {
        CaptureSegments x = with(PRE, 1, DEPTH, 3, HOLD, 0);
        feedAll(x, -9, 1, 2);
        x.set(DEPTH, 6);
        x.set(PRE, 4);
        feedAll(x, -9, -8, -7, -6, 5, 6);
        check.due("DEPTH of the first", x.segment(0, 1), 3);
        check.due("PRE of the first", x.segment(0, 2), 1);
        check.due("the last place of the first", x.sampleOf(0, 2), 1002);
        check.due("none behind it", x.sampleOf(0, 3), NO_SUCH);
        check.due("DEPTH of the second", x.segment(1, 1), 6);
        check.due("PRE of the second", x.segment(1, 2), 4);
        check.due("the last place of the second", x.sampleOf(1, 5), 1006);
        // A captured one that comes back keeps its own, whatever was set since.
        x = with(PRE, 1, DEPTH, 3, HOLD, 0);
        feedAll(x, -9, 1);
        x.save(0);
        x.clear();
        x.set(DEPTH, 9);
        x.set(PRE, 0);
        feedAll(x, -9, 1);
        x.restore(0);
        check.due("completes", x.feed(2, 1), 1);
        check.due("DEPTH", x.segment(0, 1), 3);
        check.due("PRE", x.segment(0, 2), 1);
    }

    @Sentence("(DEPTH and PRE cannot be set while one is being captured.)")
    static void segments_depthAndPreCannotBeSet(Check check) {
        CaptureSegments x = with(PRE, 1, DEPTH, 3, HOLD, 0);
        x.feed(-9, 1);
        check.due("DEPTH ahead of the trigger", x.set(DEPTH, 4), 1003);
        check.due("PRE ahead of the trigger", x.set(PRE, 1), 1001);
        x.feed(9, 1);
        for (int yet = 2; yet > 0; yet--) {
            check.due("has yet to get", x.count(9), yet);
            check.due("DEPTH while captured", x.set(DEPTH, 9), NOT_POSSIBLE);
            check.due("DEPTH as it is, while captured", x.set(DEPTH, 4), NOT_POSSIBLE);
            check.due("PRE while captured", x.set(PRE, 0), NOT_POSSIBLE);
            check.due("PRE as it is, while captured", x.set(PRE, 1), NOT_POSSIBLE);
            x.feed(9, 1);
        }
        check.due("DEPTH when it is complete", x.set(DEPTH, 9), 1004);
        check.due("PRE when it is complete", x.set(PRE, 0), 1001);
        feedAll(x, -9, 9);
        check.due("captures", x.count(2), 3);
        x.clear();
        check.due("DEPTH when it is forgotten", x.set(DEPTH, 3), 1009);
        check.due("PRE when it is forgotten", x.set(PRE, 1), 1000);
    }

    @Sentence("If KEEP becomes less, the oldest ones go.")
    static void segments_keepBecomesLess(Check check) {
        for (int less = 1; less <= 6; less++) {
            CaptureSegments x = bare(KEEP, 6);
            keep(x, 6);
            check.due("KEEP " + less, x.set(KEEP, less), 1006);
            check.due("KEEP " + less + ": so many are left", x.count(1), less);
            check.due("KEEP " + less + ": the first one left", x.sampleOf(0, 0), 1007 - less);
            check.due("KEEP " + less + ": the last one left", x.sampleOf(less - 1, 0), 1006);
            check.due("KEEP " + less + ": no more", x.sampleOf(less, 0), NO_SUCH);
        }
        CaptureSegments x = bare(KEEP, 6);
        keep(x, 3);
        x.set(KEEP, 3);
        check.due("as many as there are: all stay", x.count(1), 3);
        x.set(KEEP, 2);
        check.due("one less: one goes", x.sampleOf(0, 0), 1002);
        x.set(KEEP, 6);
        check.due("more: none comes back", x.count(1), 2);
        check.counts("what is counted stays", x, 4, 3, 3, 0, 3);
    }

    @Sentence("The phase is: 3: it captures;")
    static void segments_phaseCaptures(Check check) {
        CaptureSegments x = with(PRE, 0, DEPTH, 2, HOLD, 4, KEEP, 1, OVER, 1);
        feedAll(x, -9, -9, -9, -9, 9);
        check.due("it captures", x.count(2), 3);
        x.set(HOLD, 60);
        check.due("too few came since, but it captures", x.count(2), 3);
        x.set(HOLD, 0);
        feedAll(x, 9, -9, 9);
        check.due("one is kept, OVER is 1, it captures", x.count(2), 3);
        x.set(OVER, 0);
        check.due("no room, but it captures", x.count(2), 3);
    }

    @Sentence("otherwise 2: there is no room;")
    static void segments_phaseNoRoom(Check check) {
        CaptureSegments x = bare(KEEP, 2);
        keep(x, 1);
        check.due("one of two", x.count(2), 1);
        keep(x, 1);
        check.due("two of two", x.count(2), 2);
        x.set(HOLD, 60);
        check.due("no room, and too few came since", x.count(2), 2);
        x.set(OVER, 1);
        check.due("OVER is 1: too few came since", x.count(2), 0);
        x.set(HOLD, 0);
        check.due("OVER is 1: ready", x.count(2), 1);
        x.set(OVER, 0);
        x.set(KEEP, 3);
        check.due("two of three", x.count(2), 1);
    }

    @Sentence("otherwise 0: too few samples came since; 1: it is ready.")
    static void segments_phaseTooFewOrReady(Check check) {
        for (int hold = 0; hold <= 3; hold++) {
            for (int pre = 0; pre <= 3; pre++) {
                CaptureSegments x = with(HOLD, hold, PRE, pre);
                for (int came = 0; came <= 4; came++) {
                    int phase = came >= hold && came >= pre ? 1 : 0;
                    check.due("HOLD " + hold + ", PRE " + pre + ", " + came + " came", x.count(2), phase);
                    x.feed(50, 1);
                }
            }
        }
        CaptureSegments x = with(PRE, 0, DEPTH, 1, HOLD, 1);
        feedAll(x, -9, 9);
        check.due("none came since it was complete", x.count(2), 0);
        feedAll(x, 9);
        check.due("one came since it was complete", x.count(2), 1);
    }
}
