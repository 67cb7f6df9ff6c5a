/** Promises 18 to 20 of the document: undo, save and restore; and as many calls as an object is used for. */
public final class BoundaryStatesTest extends Scopes {
    private static final int[] NO_SLOT = {-1, 2, 3, LOWEST, HIGHEST, 1 << 30, 1 << 31 | 1};

    public static void main(String[] args) {
        Boundaries.main(BoundaryStatesTest.class);
    }

    /** One segment is kept, one is captured with another kind, DEPTH and PRE; the detector is armed. */
    private static CaptureSegments lived() {
        CaptureSegments x = with(HOLD, 0, PRE, 1, DEPTH, 2, HYST, 0);
        feedAll(x, -5, 6);
        x.set(KIND, FALLS);
        x.set(DEPTH, 6);
        x.set(PRE, 2);
        feedAll(x, 9, 8, -7, 3);
        return x;
    }

    // ---- 512 calls

    @Sentence("An object is used for at most 512 calls after it has been made;")
    static void what_512Calls(Check check) {
        CaptureSegments x = new CaptureSegments();
        for (int call = 1; call <= 511; call++) {
            x.set(LEVEL, call % 100);
        }
        check.due("511 changes: the last one", x.set(LEVEL, 0), 1011);
        x = new CaptureSegments();
        for (int call = 1; call <= 499; call++) {
            x.set(LEVEL, call % 100);
        }
        for (int left = 5; left >= 0; left--) {
            check.due("499 changes, undo()", x.undo(), left);
            check.due("level", x.count(11), 1093 + left);
        }
        check.due("no more", x.undo(), NOT_POSSIBLE);
        x = bare(OVER, 1);
        keep(x, 100);
        keep(x, 100);
        check.due("200 segments", x.clear(), 4);
        keep(x, 50);
        check.counts("250 segments", x, 4, 250, 250, 0, 250, 0);
        x = new CaptureSegments();
        for (int round = 1; round <= 128; round++) {
            check.due("put()", x.put(packed("k2;5,-6")), 7);
            check.due("fault()", x.fault(), NONE);
            check.due("carryOut()", x.carryOut(), 2);
            check.due("sample()", x.sample(2 * round - 1), 994);
        }
    }

    // ---- 18

    @Sentence("Undoes the latest change: everything except the pad, the slots and the history is as it was before it.")
    static void p18_asItWas(Check check) {
        String[] changes = {"set", "feed", "clear", "drop", "carryOut", "restore"};
        for (String change : changes) {
            CaptureSegments x = lived();
            x.save(0);
            feedAll(x, 4);
            putText(x, "k2;c;7*9");
            String before = shown(x);
            int undoable = x.count(21);
            String answers = "";
            switch (change) {
                case "set" -> answers += x.set(KIND, RUNTS);
                case "feed" -> answers += x.feed(-7, 9);
                case "clear" -> answers += x.clear();
                case "drop" -> answers += x.drop(0);
                case "carryOut" -> answers += x.carryOut();
                default -> answers += x.restore(0);
            }
            check.due("changed by " + change + "(), answered " + answers, !shown(x).equals(before));
            check.due("undo() of " + change + "()", x.undo(), Math.min(undoable, 5));
            if (change.equals("carryOut")) {
                check.due("the pad is not what it was", x.count(20), 0);
                putText(x, "k2;c;7*9");
            }
            check.due("behind undo() of " + change + "()", withoutHistory(shown(x)), withoutHistory(before));
            check.due("the one that is captured goes on", x.feed(5, 1), 1);
            check.due("its samples", x.segment(1, 6), 10022);
        }
    }

    private static String withoutHistory(String shown) {
        return shown.replaceAll(" \\d+ samples", " samples");
    }

    @Sentence("everything except the pad, the slots and the history is as it was before it.")
    static void p18_whatIsNotUndone(Check check) {
        CaptureSegments x = new CaptureSegments();
        x.feed(5, 2);
        putText(x, "1,2");
        x.save(0);
        x.undo();
        check.due("the pad stays", x.count(20), 3);
        check.due("no sample", x.count(0), 0);
        check.due("the slot stays", x.restore(0), 0);
        check.due("two samples", x.count(0), 2);
        x.feed(6, 1);
        x.save(0);
        x.undo();
        x.undo();
        check.due("restore() is undone", x.count(0), 0);
        x.restore(0);
        check.due("the slot stays what it was when it was saved", x.count(0), 3);
        x.carryOut();
        check.due("the pad is carried out", x.count(20), 0);
        x.undo();
        check.due("it does not come back", x.count(20), 0);
    }

    @Sentence("A history of at most 6 states is kept:")
    static void p18_atMost6States(Check check) {
        CaptureSegments x = new CaptureSegments();
        for (int i = 1; i <= 6; i++) {
            x.feed(i, 1);
            check.due("states", x.count(21), i);
        }
        x.feed(7, 1);
        check.due("no seventh", x.count(21), 6);
        for (int left = 5; left >= 0; left--) {
            check.due("undo()", x.undo(), left);
            check.due("samples", x.count(0), 1 + left);
        }
        check.due("no more", x.undo(), NOT_POSSIBLE);
        check.due("the first sample stays", x.count(0), 1);
    }

    @Sentence("each method that is a change, and returns no error, records the state before it")
    static void p18_eachChangeRecords(Check check) {
        CaptureSegments x = new CaptureSegments();
        x.save(0);
        x.set(PRE, 0);
        check.due("set()", x.count(21), 1);
        x.set(DEPTH, 1);
        check.due("set()", x.count(21), 2);
        x.feed(-9, 5);
        check.due("feed()", x.count(21), 3);
        x.feed(9, 1);
        check.due("feed()", x.count(21), 4);
        x.drop(0);
        check.due("drop()", x.count(21), 5);
        x.clear();
        check.due("clear()", x.count(21), 6);
        x = new CaptureSegments();
        x.save(0);
        x.restore(0);
        check.due("restore()", x.count(21), 1);
        putText(x, "c");
        check.due("put() is no change", x.count(21), 1);
        x.carryOut();
        check.due("carryOut()", x.count(21), 2);
        x.wipe();
        x.fault();
        x.save(1);
        x.fires(0);
        x.bestLevel(0);
        x.unlike(0, 0);
        x.nearest(0);
        x.count(0);
        x.sample(0);
        check.due("what is no change records nothing", x.count(21), 2);
        check.due("undo() records nothing", x.undo(), 1);
    }

    @Sentence("and returns no error,")
    static void p18_errorsRecordNothing(Check check) {
        CaptureSegments x = new CaptureSegments();
        x.feed(0, 1);
        x.set(KIND, 3);
        x.set(LOW, 20);
        x.feed(101, 1);
        x.feed(1, 0);
        x.drop(0);
        x.carryOut();
        x.restore(0);
        x.restore(2);
        check.due("one state alone", x.count(21), 1);
        fill(x, 399);
        int undoable = x.count(21);
        x.feed(1, 1);
        check.due("too many samples", x.count(21), undoable);
        check.due("undo() is of the last that was no error", x.undo(), undoable - 1);
        check.due("of that", x.count(0), 301);
    }

    @Sentence("(also if nothing is different then);")
    static void p18_alsoIfNothingIsDifferent(Check check) {
        CaptureSegments x = new CaptureSegments();
        x.save(0);
        x.clear();
        check.due("clear() of nothing", x.count(21), 1);
        x.set(HOLD, 4);
        check.due("set() to what it is", x.count(21), 2);
        x.restore(0);
        check.due("restore() of what is", x.count(21), 3);
        putText(x, "5*0");
        x.carryOut();
        check.due("carryOut() of none", x.count(21), 4);
        for (int left = 3; left >= 0; left--) {
            check.due("undo() of each", x.undo(), left);
        }
    }

    @Sentence("when one more is recorded, the oldest one is dropped.")
    static void p18_theOldestOneIsDropped(Check check) {
        for (int changes = 7; changes <= 20; changes++) {
            CaptureSegments x = new CaptureSegments();
            for (int i = 0; i < changes; i++) {
                x.feed(i, 1);
            }
            for (int back = 1; back <= 6; back++) {
                check.due(changes + " changes, undo()", x.undo(), 6 - back);
                check.due(changes + " changes, " + back + " undone: samples", x.count(0), changes - back);
                check.due(changes + " changes, " + back + " undone: the last one", x.sample(changes - back - 1),
                    1000 + changes - back - 1);
            }
            check.due(changes + " changes, no more", x.undo(), NOT_POSSIBLE);
        }
        // The rows of the history are used again, whatever was undone in between.
        CaptureSegments x = new CaptureSegments();
        for (int round = 0; round < 7; round++) {
            for (int i = 0; i < 5; i++) {
                x.feed(round, 1);
            }
            x.undo();
            x.undo();
        }
        check.due("three samples a round", x.count(0), 21);
        check.due("the most there can be is 6, two are undone", x.count(21), 4);
        for (int left = 3; left >= 0; left--) {
            check.due("undo()", x.undo(), left);
        }
        check.due("four are undone", x.count(0), 17);
        check.due("no more", x.undo(), NOT_POSSIBLE);
    }

    @Sentence("An order of a text records nothing by itself.")
    static void p18_orderRecordsNothing(Check check) {
        CaptureSegments x = new CaptureSegments();
        putText(x, "1;2*3;k1;l5;c;4;5");
        x.carryOut();
        check.due("one for all", x.count(21), 1);
        check.due("undo()", x.undo(), 0);
        check.due("no sample", x.count(0), 0);
        check.due("kind", x.count(10), 1000);
        check.due("level", x.count(11), 1000);
        check.due("nothing more", x.undo(), NOT_POSSIBLE);
    }

    @Sentence("Returns how many changes can be undone then;")
    static void p18_howManyThen(Check check) {
        CaptureSegments x = new CaptureSegments();
        x.clear();
        check.due("none more", x.undo(), 0);
        for (int i = 0; i < 6; i++) {
            x.clear();
        }
        for (int left = 5; left >= 0; left--) {
            check.due("undo()", x.undo(), left);
            check.due("count(21)", x.count(21), left);
        }
    }

    @Sentence("NOT_POSSIBLE if there is none.")
    static void p18_none(Check check) {
        CaptureSegments x = new CaptureSegments();
        check.due("new", x.undo(), NOT_POSSIBLE);
        x.feed(5, 1);
        x.undo();
        check.due("undone", x.undo(), NOT_POSSIBLE);
        check.due("and again", x.undo(), NOT_POSSIBLE);
        check.due("no sample", x.count(0), 0);
        x.feed(6, 1);
        check.due("one more change", x.undo(), 0);
        check.due("undone", x.undo(), NOT_POSSIBLE);
    }

    // ---- 19

    @Sentence("Saves everything except the pad, the history and the slots in a slot,")
    static void p19_savesEverything(Check check) {
        for (int slot = 0; slot <= 1; slot++) {
            CaptureSegments x = lived();
            String before = withoutHistory(shown(x));
            x.save(slot);
            x.clear();
            int[] others = {KIND, RISES, PRE, 0, DEPTH, 3, LEVEL, 1, HYST, 1, LOW, -1, HIGH, 1, HOLD, 1, KEEP, 1, OVER, 1};
            for (int i = 0; i < others.length; i += 2) {
                x.set(others[i], others[i + 1]);
            }
            feedAll(x, -9, 9, 9, 9, -9, -9, -9, 9, 9);
            check.counts("another one is kept, another one captured", x, 0, 9, 1, 3, 0, 4, 4, 0, 2, 5, 1);
            x.restore(slot);
            check.due("saved in " + slot, withoutHistory(shown(x)), before);
            check.due("the one that is captured goes on", x.feed(1, 2), 1);
            int[] wants = {4, 6, 2, 1, 993, 1009, 10015, 1};
            for (int what = 0; what < 8; what++) {
                check.due("segment(1, " + what + ")", x.segment(1, what), wants[what]);
            }
        }
    }

    @Sentence("except the pad, the history and the slots")
    static void p19_whatIsNotSaved(Check check) {
        CaptureSegments x = new CaptureSegments();
        putText(x, "1,2");
        x.feed(1, 1);
        x.save(0);
        check.due("is no change", x.count(21), 1);
        x.wipe();
        putText(x, "c");
        x.feed(2, 1);
        x.feed(3, 1);
        x.save(1);
        x.restore(0);
        check.due("not the pad", x.count(20), 1);
        check.due("not the history", x.count(21), 4);
        check.due("not the other slot", x.restore(1), 0);
        check.due("three samples", x.count(0), 3);
    }

    @Sentence("and overwrites what was saved there.")
    static void p19_overwrites(Check check) {
        CaptureSegments x = new CaptureSegments();
        x.feed(1, 1);
        x.save(0);
        x.save(1);
        x.feed(2, 1);
        x.save(0);
        x.clear();
        x.restore(0);
        check.due("what was saved last in 0", x.count(0), 2);
        x.restore(1);
        check.due("what was saved last in 1", x.count(0), 1);
        x.clear();
        x.save(1);
        x.restore(0);
        x.restore(1);
        check.due("also by less", x.count(0), 0);
    }

    @Sentence("`slot`: 0 or 1")
    static void p19_slots(Check check) {
        CaptureSegments x = new CaptureSegments();
        x.save(0);
        x.feed(1, 1);
        x.save(1);
        x.restore(0);
        check.due("0", x.count(0), 0);
        x.restore(1);
        check.due("1", x.count(0), 1);
    }

    @Sentence("Returns how many segments are kept;")
    static void p19_howManyAreKept(Check check) {
        CaptureSegments x = bare(KEEP, 6);
        for (int kept = 0; kept <= 6; kept++) {
            check.due("save(0)", x.save(0), kept);
            check.due("save(1)", x.save(1), kept);
            keep(x, 1);
        }
        x = with(PRE, 0, HOLD, 0);
        feedAll(x, -9, 9);
        check.due("one that is being captured is not kept", x.save(0), 0);
    }

    @Sentence("BAD_VALUE if there is no such slot.")
    static void p19_noSuchSlot(Check check) {
        CaptureSegments x = new CaptureSegments();
        for (int none : NO_SLOT) {
            check.due("save(" + none + ")", x.save(none), BAD_VALUE);
        }
        check.due("nothing is saved in 0", x.restore(0), NOT_POSSIBLE);
        check.due("nothing is saved in 1", x.restore(1), NOT_POSSIBLE);
    }

    // ---- 20

    @Sentence("Restores what was saved last in a slot, which keeps it.")
    static void p20_keepsIt(Check check) {
        for (int slot = 0; slot <= 1; slot++) {
            CaptureSegments x = lived();
            String before = withoutHistory(shown(x));
            x.save(slot);
            for (int again = 0; again < 3; again++) {
                x.feed(-50, 10);
                x.set(LEVEL, again);
                x.clear();
                check.due("restore(" + slot + ")", x.restore(slot), 1);
            }
            check.due("the third time", withoutHistory(shown(x)), before);
        }
    }

    @Sentence("This is a change.")
    static void p20_isAChange(Check check) {
        CaptureSegments x = new CaptureSegments();
        x.save(0);
        x.feed(1, 1);
        x.restore(0);
        check.due("records", x.count(21), 2);
        x.restore(1);
        x.restore(2);
        check.due("not if it is refused", x.count(21), 2);
        x.undo();
        check.due("undone", x.count(0), 1);
    }

    @Sentence("`slot`: 0 or 1")
    static void p20_slots(Check check) {
        CaptureSegments x = bare();
        keep(x, 1);
        x.save(1);
        check.due("nothing in 0", x.restore(0), NOT_POSSIBLE);
        check.due("1", x.restore(1), 1);
        x.clear();
        x.save(0);
        x.restore(1);
        check.due("0", x.restore(0), 0);
        check.due("0", x.count(0), 0);
        check.due("1", x.restore(1), 1);
        check.due("1", x.count(0), 2);
    }

    @Sentence("Returns how many segments are kept then;")
    static void p20_howManyAreKeptThen(Check check) {
        for (int kept = 0; kept <= 6; kept++) {
            CaptureSegments x = bare(KEEP, 6);
            keep(x, kept);
            x.save(0);
            x.clear();
            keep(x, 6 - kept);
            check.due("restore(0)", x.restore(0), kept);
            check.due("so many are kept", x.count(1), kept);
        }
    }

    @Sentence("BAD_VALUE if there is no such slot;")
    static void p20_noSuchSlot(Check check) {
        CaptureSegments x = new CaptureSegments();
        for (int none : NO_SLOT) {
            check.due("restore(" + none + "), nothing saved", x.restore(none), BAD_VALUE);
        }
        x.save(0);
        x.save(1);
        for (int none : NO_SLOT) {
            check.due("restore(" + none + "), both saved", x.restore(none), BAD_VALUE);
        }
    }

    @Sentence("NOT_POSSIBLE if nothing was saved in it.")
    static void p20_nothingSaved(Check check) {
        CaptureSegments x = new CaptureSegments();
        check.due("restore(0)", x.restore(0), NOT_POSSIBLE);
        check.due("restore(1)", x.restore(1), NOT_POSSIBLE);
        x.save(2);
        check.due("a refused save()", x.restore(0), NOT_POSSIBLE);
        x.save(0);
        check.due("the one it was saved in", x.restore(0), 0);
        check.due("the other one", x.restore(1), NOT_POSSIBLE);
        x.undo();
        x.undo();
        check.due("undo() does not take it back", x.restore(0), 0);
        x.save(1);
        check.due("the other one", x.restore(1), 0);
    }
}
