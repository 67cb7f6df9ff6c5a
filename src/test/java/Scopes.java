/** Objects and calls that several tests begin with; they extend it, for classes without a package have no static import. */
abstract class Scopes {
    static final int NO_SUCH = -1, BAD_VALUE = -2, BAD_TEXT = -3, TOO_MANY = -4, NOT_POSSIBLE = -5, NONE = -6;
    static final int KIND = 0, LEVEL = 1, HYST = 2, LOW = 3, HIGH = 4, DEPTH = 5, PRE = 6, HOLD = 7, KEEP = 8, OVER = 9;
    static final int RISES = 0, FALLS = 1, RUNTS = 2;
    static final int LOWEST = Integer.MIN_VALUE, HIGHEST = Integer.MAX_VALUE;

    /** An object with the settings, in pairs. */
    static CaptureSegments with(int... pairs) {
        CaptureSegments x = new CaptureSegments();
        setAll(x, pairs);
        return x;
    }

    /** An object whose segments are the trigger alone, and that is ready at once. */
    static CaptureSegments bare(int... pairs) {
        CaptureSegments x = with(PRE, 0, DEPTH, 1, HOLD, 0);
        setAll(x, pairs);
        return x;
    }

    private static void setAll(CaptureSegments x, int... pairs) {
        for (int i = 0; i < pairs.length; i += 2) {
            if (x.set(pairs[i], pairs[i + 1]) < 0) {
                throw new IllegalStateException("set(" + pairs[i] + ", " + pairs[i + 1] + ") returned an error");
            }
        }
    }

    static void feedAll(CaptureSegments x, int... values) {
        for (int value : values) {
            x.feed(value, 1);
        }
    }

    /** Keeps so many segments of one sample each: 1, 2, 3 .. */
    static void keep(CaptureSegments x, int segments) {
        for (int i = 1; i <= segments; i++) {
            feedAll(x, -99, i);
        }
    }

    /** Has so many samples of 0 come, at most 400. */
    static void fill(CaptureSegments x, int samples) {
        for (int left = samples; left > 0; left -= 100) {
            x.feed(0, Math.min(left, 100));
        }
    }

    static long packed(String characters) {
        long packed = 0;
        for (char c : characters.toCharArray()) {
            packed = packed << 8 | c;
        }
        return packed;
    }

    /** Returns what the last put() answered. */
    static int putText(CaptureSegments x, String text) {
        int answer = 0;
        for (int i = 0; i < text.length(); i += 8) {
            answer = x.put(packed(text.substring(i, Math.min(i + 8, text.length()))));
        }
        return answer;
    }

    /** The answers of all calls that change nothing: some 120 calls, if segments are short. */
    static String shown(CaptureSegments x) {
        StringBuilder told = new StringBuilder("counts");
        for (int what = 0; what <= 21; what++) {
            told.append(' ').append(x.count(what));
        }
        told.append(" samples");
        int samples = x.count(0);
        for (int number = 0; number <= Math.min(samples, 20); number++) {
            told.append(' ').append(x.sample(number));
        }
        told.append(" last ").append(x.sample(samples - 1)).append(" segments");
        for (int segment = 0; segment <= x.count(1); segment++) {
            for (int what = 0; what <= 7; what++) {
                told.append(' ').append(x.segment(segment, what));
            }
            for (int place = 0; place <= x.segment(segment, 1); place++) {
                told.append(' ').append(x.sampleOf(segment, place));
            }
            told.append(" near ").append(x.nearest(segment)).append(',');
        }
        told.append(" fires ").append(x.fires(-1)).append(' ').append(x.fires(5));
        told.append(" best ").append(x.bestLevel(0)).append(' ').append(x.bestLevel(1));
        return told.append(" fault ").append(x.fault()).toString();
    }
}
