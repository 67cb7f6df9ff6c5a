/** The texts: "Texts" of the document, and its promises 14 to 17. */
public final class BoundaryTextsTest extends Scopes {
    public static void main(String[] args) {
        Boundaries.main(BoundaryTextsTest.class);
    }

    private static CaptureSegments padWith(String text) {
        CaptureSegments x = new CaptureSegments();
        putText(x, text);
        return x;
    }

    /** The text has no fault. */
    private static void reads(Check check, String... texts) {
        for (String text : texts) {
            check.due("fault() of " + text, padWith(text).fault(), NONE);
        }
    }

    /** The text has its fault there. */
    private static void fails(Check check, String text, int fault) {
        CaptureSegments x = padWith(text);
        check.due("fault() of " + text, x.fault(), fault);
        check.due("carryOut() of " + text, x.carryOut(), BAD_TEXT);
    }

    /** The text fails at its last character, and only there. */
    private static void failsAtItsEnd(Check check, String... texts) {
        for (String text : texts) {
            fails(check, text, text.length() - 1);
        }
    }

    /** The text ends too early. */
    private static void endsTooEarly(Check check, String... texts) {
        for (String text : texts) {
            fails(check, text, text.length());
        }
    }

    private static void carriesOut(Check check, CaptureSegments x, String text, int orders) {
        putText(x, text);
        check.due("carryOut() of " + text, x.carryOut(), orders);
    }

    // ---- the grammar

    @Sentence("The pad is a text of at most 80 characters, a row of orders:")
    static void texts_atMost80Characters(Check check) {
        CaptureSegments x = padWith("1,".repeat(39) + "1");
        check.due("79", x.count(20), 79);
        check.due("80", x.put(packed("2")), 80);
        check.due("81", x.put(packed("3")), TOO_MANY);
        check.due("80 characters are read", x.fault(), NONE);
        check.due("and carried out", x.carryOut(), 1);
        check.due("40 samples", x.count(0), 40);
        check.due("the last one", x.sample(39), 1012);
        x = padWith("c;".repeat(39) + "k");
        check.due("the 80th character is missing", x.fault(), 79);
        x.put(packed("2"));
        check.due("40 orders", x.carryOut(), 40);
        check.due("the last one", x.count(10), 1002);
    }

    @Sentence("text = order { \";\" order }")
    static void texts_text(Check check) {
        reads(check, "c", "c;c", "c;c;c", "k0;l1;c;2", "2;c;l1;k0");
        failsAtItsEnd(check, ";", "c;;", "1;;", "k1;;", "l1;;", "1*2;;", "cc", "c,", "c1", "k1k", "k1c", "l1l", "1c", "1k");
        endsTooEarly(check, "c;", "1;", "k1;", "l1;", "1*2;", "1,2;", "c;c;");
    }

    @Sentence("order = sample { \",\" sample } | \"k\" digit | \"l\" value | \"c\";")
    static void texts_order(Check check) {
        reads(check, "1", "1,2", "1,-2,3", "1*2,3*4", "k0", "k1", "k2", "l0", "l5", "l-5", "l100", "c");
        failsAtItsEnd(check, ",", "1,,", "1,;", "1,k", "1,l", "1,c", "k0,", "k1;,", "l5,", "l5*", "l5,", "c,", "k-", "kk",
            "k,", "k;", "lk", "lc", "l;", "l,", "l*", "K", "L", "C", "a", "z", "!", "~");
        endsTooEarly(check, "1,", "1,2,", "k", "l", "c;k", "c;l");
    }

    @Sentence("sample = value [ \"*\" number ];")
    static void texts_sample(Check check) {
        reads(check, "1*1", "-1*1", "1*0", "1*100", "0*1", "1*2,3");
        failsAtItsEnd(check, "*", "1**", "1*-", "1*,", "1*;", "1*c", "1*2*", "1*2-");
        endsTooEarly(check, "1*", "-1*", "1,2*", "1*2,3*");
    }

    @Sentence("value = [ \"-\" ] number")
    static void texts_value(Check check) {
        reads(check, "1", "-1", "0", "-0", "100", "-100", "l-100", "l-0");
        failsAtItsEnd(check, "--", "1-", "-,", "-;", "-*", "-c", "+", "l--", "l1-", "1,--");
        endsTooEarly(check, "-", "l-", "1,-", "1;-");
        CaptureSegments x = new CaptureSegments();
        carriesOut(check, x, "-100,-0,0,100;l-100", 2);
        check.due("-100", x.sample(0), 900);
        check.due("-0", x.sample(1), 1000);
        check.due("0", x.sample(2), 1000);
        check.due("100", x.sample(3), 1100);
        check.due("l-100", x.count(11), 900);
    }

    @Sentence("A number is 0 to 100,")
    static void texts_numberTo100(Check check) {
        for (int number = 0; number <= 100; number++) {
            reads(check, "" + number, "l-" + number, "1*" + number);
        }
        failsAtItsEnd(check, "101", "109", "110", "190", "200", "999", "-101", "l101", "l-101", "1*101", "1,101", "1000");
    }

    @Sentence("without leading zeros,")
    static void texts_withoutLeadingZeros(Check check) {
        reads(check, "0", "-0", "l0", "1*0", "0,0", "10", "100");
        failsAtItsEnd(check, "00", "01", "09", "-00", "-01", "l00", "l01", "l-05", "1*00", "1*01", "0,00");
    }

    @Sentence("a digit is 0 to 2.")
    static void texts_digitTo2(Check check) {
        reads(check, "k0", "k1", "k2");
        failsAtItsEnd(check, "k3", "k4", "k9", "k/", "k:", "k00", "k01", "k10", "k22");
        for (int kind = 0; kind <= 2; kind++) {
            CaptureSegments x = new CaptureSegments();
            carriesOut(check, x, "k" + kind, 1);
            check.due("k" + kind, x.count(10), 1000 + kind);
        }
    }

    // ---- what orders do

    @Sentence("Samples: feed() each one, as often as told (once, if it is left out), one after the other,")
    static void texts_samplesAreFed(Check check) {
        CaptureSegments x = new CaptureSegments();
        carriesOut(check, x, "5,-6*1,7*2,8*100", 1);
        check.due("as often as told", x.count(0), 104);
        check.due("once, if it is left out", x.sample(0), 1005);
        check.due("once, if it is told", x.sample(1), 994);
        check.due("twice", x.sample(2), 1007);
        check.due("twice", x.sample(3), 1007);
        check.due("a hundred times", x.sample(4), 1008);
        check.due("a hundred times", x.sample(103), 1008);
        x = bare(HYST, 0);
        carriesOut(check, x, "-1,0,-1,0", 1);
        check.counts("the detector sees them, segments become complete", x, 4, 2, 2, 0, 2);
    }

    @Sentence("up to the first one that returns an error, which the order returns (those ahead of it stay);")
    static void texts_firstSampleThatReturnsAnError(Check check) {
        CaptureSegments x = new CaptureSegments();
        carriesOut(check, x, "1,2*2,3*0,4", 0);
        check.due("those ahead of it stay", x.count(0), 3);
        check.due("the last of them", x.sample(2), 1002);
        x = new CaptureSegments();
        carriesOut(check, x, "1*100,2*100,3*100,4*99,5*2,6", 0);
        check.due("400 is the most: those ahead of it stay", x.count(0), 399);
        check.due("the last of them", x.sample(398), 1004);
        carriesOut(check, x, "5*2;6", 0);
        check.due("none came", x.count(0), 399);
        carriesOut(check, x, "6,7", 0);
        check.due("one came", x.count(0), 400);
        check.due("it is that", x.sample(399), 1006);
        x = bare(HYST, 0);
        carriesOut(check, x, "-1,0,-1,0,5*0,-1,0", 0);
        check.counts("segments of those ahead of it stay", x, 4, 2, 2, 0, 2);
    }

    @Sentence("\"k\", \"l\": set() of KIND, of LEVEL;")
    static void texts_setOfKindAndLevel(Check check) {
        CaptureSegments x = new CaptureSegments();
        carriesOut(check, x, "l100", 1);
        check.due("the greatest level", x.count(11), 1100);
        carriesOut(check, x, "l-100;k2", 2);
        check.due("the least level", x.count(11), 900);
        check.due("the last kind", x.count(10), 1002);
        x.feed(-99, 1);
        check.due("armed", x.count(3), 1);
        carriesOut(check, x, "k2", 1);
        check.due("\"k\" puts the detector off", x.count(3), 0);
        x.feed(-99, 1);
        carriesOut(check, x, "l-100", 1);
        check.due("\"l\" puts the detector off", x.count(3), 0);
        x.feed(-99, 1);
        carriesOut(check, x, "0", 1);
        check.due("a sample does not", x.count(3), 2);
    }

    @Sentence("\"c\": clear().")
    static void texts_clear(Check check) {
        CaptureSegments x = with(PRE, 0, HOLD, 0, DEPTH, 2, LEVEL, 3);
        feedAll(x, -9, 9, 9, -9, 9, -9);
        carriesOut(check, x, "c", 1);
        check.counts("cleared", x, 0, 0, 0, 1, 0, 2, 2, 0, 2, 0, 0);
        check.due("level stays", x.count(11), 1003);
        carriesOut(check, x, "c;5;c;6", 4);
        check.due("one sample", x.count(0), 1);
        check.due("it is that", x.sample(0), 1006);
    }

    // ---- the fault

    @Sentence("The fault is the index of the first character that cannot stand at its place when the text is read from left to right")
    static void texts_firstCharacterThatCannotStand(Check check) {
        fails(check, "x", 0);
        fails(check, "xx", 0);
        fails(check, "1;x;y", 2);
        fails(check, "1,2*3;k1;l-4;c;?;!", 15);
        fails(check, "c;c,1;x", 3);
        fails(check, "k3;x", 1);
        fails(check, "1*2*3", 3);
        fails(check, "1,".repeat(39) + "1x", 79);
        fails(check, "c".repeat(80), 1);
        fails(check, "1".repeat(80), 2);
        fails(check, "0".repeat(80), 1);
        fails(check, "-".repeat(80), 1);
        fails(check, ";".repeat(80), 0);
    }

    @Sentence("(also of a digit by which a number would be above 100);")
    static void texts_digitAbove100(Check check) {
        fails(check, "101", 2);
        fails(check, "1010", 2);
        fails(check, "1000", 3);
        fails(check, "110", 2);
        fails(check, "990", 2);
        fails(check, "-101", 3);
        fails(check, "1*101,x", 4);
        fails(check, "l999;x", 3);
        fails(check, "100;-100;l100;5*1000", 19);
        fails(check, "9999999999999999999999999999", 2);
    }

    @Sentence("if there is none and the text ends too early (also if it is empty), it is the length of the text.")
    static void texts_endsTooEarly(Check check) {
        fails(check, "", 0);
        fails(check, "k", 1);
        fails(check, "1,2*", 4);
        fails(check, "c;c;c;l-", 8);
        fails(check, "1,".repeat(40), 80);
        fails(check, "c;".repeat(40), 80);
        fails(check, "c;".repeat(39) + "1-", 79);
        CaptureSegments x = padWith("c");
        check.due("it does not end too early", x.fault(), NONE);
        x.wipe();
        check.due("wiped: empty", x.fault(), 0);
    }

    // ---- 14

    @Sentence("Appends characters to the pad.")
    static void p14_appends(Check check) {
        CaptureSegments x = new CaptureSegments();
        x.put(packed("12"));
        check.due("behind the others", x.put(packed(",-34*5;c")), 10);
        check.due("is read as one text", x.fault(), NONE);
        x.put(packed("x"));
        check.due("the last one", x.fault(), 10);
    }

    @Sentence("its lowest 8 bits are the last character, the next 8 bits the one before, and so on;")
    static void p14_lowestBitsAreTheLast(Check check) {
        CaptureSegments x = new CaptureSegments();
        check.due("1,2", x.put(0x312C32L), 3);
        x.carryOut();
        check.due("1 is the first", x.sample(0), 1001);
        check.due("2 is the last", x.sample(1), 1002);
        check.due("3,4,5,-6", x.put(0x332C342C352C2D36L), 8);
        x.carryOut();
        check.due("3 is the first", x.sample(2), 1003);
        check.due("-6 is the last", x.sample(5), 994);
    }

    @Sentence("8 bits that are 0 mean that there are no more characters, and everything above them has to be 0, too.")
    static void p14_zeroBitsEndThem(Check check) {
        CaptureSegments x = new CaptureSegments();
        int length = 0;
        for (int many = 1; many <= 8; many++) {
            length += many;
            check.due(many + " characters", x.put(packed("1".repeat(many))), length);
        }
        for (int gap = 0; gap < 8; gap++) {
            long holed = packed("11111111") & ~(255L << 8 * gap);
            if (gap < 7) {
                check.due("8 bits of 0 at " + gap, x.put(holed), BAD_VALUE);
            } else {
                check.due("8 bits of 0 above seven", x.put(holed), length + 7);
            }
        }
    }

    @Sentence("`characters`: 1 to 8 characters")
    static void p14_oneToEight(Check check) {
        CaptureSegments x = new CaptureSegments();
        check.due("none", x.put(0), BAD_VALUE);
        check.due("one", x.put(packed("1")), 1);
        check.due("eight", x.put(packed("23456789")), 9);
    }

    @Sentence("Returns the length of the pad then;")
    static void p14_length(Check check) {
        CaptureSegments x = new CaptureSegments();
        for (int length = 1; length <= 80; length++) {
            check.due("put()", x.put(packed("7")), length);
        }
        x.wipe();
        check.due("wiped", x.put(packed("777")), 3);
        x.undo();
        check.due("undo() is nothing to it", x.put(packed("7")), 4);
    }

    @Sentence("BAD_VALUE if there is no character,")
    static void p14_noCharacter(Check check) {
        CaptureSegments x = new CaptureSegments();
        check.due("put(0)", x.put(0), BAD_VALUE);
        check.due("empty", x.count(20), 0);
        putText(x, "1".repeat(80));
        check.due("put(0), full", x.put(0), BAD_VALUE);
    }

    @Sentence("a code is not 33 to 126,")
    static void p14_code(Check check) {
        CaptureSegments x = new CaptureSegments();
        for (long bad : new long[] {1, 9, 10, 13, 31, 32, 127, 128, 129, 160, 223, 254, 255}) {
            for (int place = 0; place < 8; place++) {
                long among = packed("11111111") & ~(255L << 8 * place) | bad << 8 * place;
                check.due("code " + bad + " among eight, at " + place, x.put(among), BAD_VALUE);
            }
            check.due("code " + bad, x.put(bad), BAD_VALUE);
        }
        check.due("-1", x.put(-1), BAD_VALUE);
        check.due("the lowest long", x.put(Long.MIN_VALUE), BAD_VALUE);
        check.due("the highest long", x.put(Long.MAX_VALUE), BAD_VALUE);
        check.due("nothing was put", x.count(20), 0);
        for (int good = 33; good <= 126; good++) {
            check.due("code " + good, x.put(good), 1);
            x.wipe();
        }
        check.due("the least code eight times", x.put(0x2121212121212121L), 8);
        check.due("the greatest code eight times", x.put(0x7E7E7E7E7E7E7E7EL), 16);
    }

    @Sentence("or a bit above 8 bits that are 0 is not 0;")
    static void p14_bitAbove(Check check) {
        CaptureSegments x = new CaptureSegments();
        for (int characters = 0; characters <= 6; characters++) {
            long some = characters == 0 ? 0 : packed("1".repeat(characters));
            for (int bit = 8 * characters + 8; bit < 64; bit++) {
                check.due(characters + " characters, and bit " + bit, x.put(some | 1L << bit), BAD_VALUE);
            }
        }
        check.due("nothing was put", x.count(20), 0);
    }

    @Sentence("TOO_MANY if the pad would be longer than 80.")
    static void p14_tooMany(Check check) {
        for (int many = 1; many <= 8; many++) {
            CaptureSegments x = padWith("1".repeat(81 - many));
            check.due(many + " are one too many", x.put(packed("2".repeat(many))), TOO_MANY);
            check.due("none of them came", x.count(20), 81 - many);
            if (many > 1) {
                check.due("one less fills it", x.put(packed("2".repeat(many - 1))), 80);
            }
            check.due("full", x.put(packed("2")), TOO_MANY);
            check.due("full", x.put(packed("22222222")), TOO_MANY);
            x.wipe();
            check.due("empty again", x.put(packed("22222222")), 8);
        }
    }

    // ---- 15

    @Sentence("Empties the pad, and returns the length that it had.")
    static void p15_wipe(Check check) {
        CaptureSegments x = new CaptureSegments();
        check.due("empty", x.wipe(), 0);
        putText(x, "1");
        check.due("one", x.wipe(), 1);
        check.due("empty", x.count(20), 0);
        check.due("empty", x.wipe(), 0);
        putText(x, "1".repeat(80));
        check.due("full", x.wipe(), 80);
        check.due("begins anew", x.put(packed("c")), 1);
        check.due("with that alone", x.fault(), NONE);
        check.due("is no change", x.count(21), 0);
    }

    // ---- 16

    @Sentence("Returns the fault of the pad, NONE if there is none.")
    static void p16_fault(Check check) {
        CaptureSegments x = new CaptureSegments();
        check.due("empty", x.fault(), 0);
        putText(x, "1");
        check.due("1", x.fault(), NONE);
        putText(x, ",");
        check.due("1,", x.fault(), 2);
        putText(x, "2");
        check.due("1,2", x.fault(), NONE);
        check.due("again", x.fault(), NONE);
        putText(x, "x");
        check.due("1,2x", x.fault(), 3);
        check.counts("it carries nothing out, and stays", x, 20, 4, 0);
        check.due("no sample", x.count(0), 0);
        x = with(PRE, 0, HOLD, 0);
        fill(x, 400);
        putText(x, "5*0,6;7");
        check.due("what only returns an error is no fault", x.fault(), NONE);
    }

    // ---- 17

    @Sentence("Carries the orders of the pad out, one after the other,")
    static void p17_oneAfterTheOther(Check check) {
        CaptureSegments x = bare();
        carriesOut(check, x, "-9;1;k1;9;-2;k0;-9,3", 7);
        check.due("three segments", x.count(1), 3);
        check.due("a rise", x.segment(0, 3), 0);
        check.due("a fall", x.segment(1, 3), 1);
        check.due("a rise", x.segment(2, 3), 0);
        check.due("the last sample", x.sampleOf(2, 0), 1003);
        carriesOut(check, x, "l5;l6;l7", 3);
        check.due("the last level", x.count(11), 1007);
        carriesOut(check, x, "4;c", 2);
        check.due("cleared behind it", x.count(0), 0);
        carriesOut(check, x, "c;4", 2);
        check.due("cleared ahead of it", x.count(0), 1);
    }

    @Sentence("up to the first one that returns an error, and empties the pad.")
    static void p17_upToTheFirstError(Check check) {
        CaptureSegments x = new CaptureSegments();
        putText(x, "1;k1;2,3*0,4;l9;c");
        check.due("two", x.carryOut(), 2);
        check.due("the pad is empty all the same", x.count(20), 0);
        check.due("the first one", x.count(0), 2);
        check.due("the second one", x.count(10), 1001);
        check.due("not the fourth one", x.count(11), 1000);
        putText(x, "c;5");
        check.due("both", x.carryOut(), 2);
        check.due("the pad is empty", x.count(20), 0);
        check.due("an empty pad has a fault", x.carryOut(), BAD_TEXT);
    }

    @Sentence("This is a change (one, with all of them; also if none is carried out).")
    static void p17_oneChange(Check check) {
        CaptureSegments x = with(LEVEL, 5);
        carriesOut(check, x, "c;".repeat(37) + "l7;9*9", 39);
        check.due("one, with all of them", x.count(21), 2);
        carriesOut(check, x, "5*0", 0);
        check.due("also if none is carried out", x.count(21), 3);
        x.undo();
        check.due("nine samples", x.count(0), 9);
        x.undo();
        check.due("all of them are undone: samples", x.count(0), 0);
        check.due("all of them are undone: level", x.count(11), 1005);
    }

    @Sentence("Returns how many orders were carried out;")
    static void p17_howMany(Check check) {
        carriesOut(check, new CaptureSegments(), "5*0;c", 0);
        carriesOut(check, new CaptureSegments(), "c", 1);
        carriesOut(check, new CaptureSegments(), "1,2,3", 1);
        carriesOut(check, new CaptureSegments(), "1,2;3", 2);
        carriesOut(check, new CaptureSegments(), "1,2;3,4*0", 1);
        carriesOut(check, new CaptureSegments(), "1,2;3;4*0", 2);
        carriesOut(check, new CaptureSegments(), "l-50;k2;l-0", 3);
        carriesOut(check, new CaptureSegments(), "c;".repeat(39) + "c", 40);
    }

    @Sentence("BAD_TEXT if the pad has a fault (then it stays).")
    static void p17_badText(Check check) {
        CaptureSegments x = new CaptureSegments();
        check.due("empty", x.carryOut(), BAD_TEXT);
        putText(x, "1,2;c;3;");
        check.due("ends too early", x.carryOut(), BAD_TEXT);
        check.due("it stays", x.count(20), 8);
        check.due("nothing came", x.count(0), 0);
        check.due("nothing was recorded", x.count(21), 0);
        putText(x, "4");
        check.due("it goes on from there", x.carryOut(), 4);
        putText(x, "5;x");
        check.due("a character that cannot stand", x.carryOut(), BAD_TEXT);
        check.due("none of it came", x.count(0), 2);
        check.due("it stays", x.wipe(), 3);
    }
}
