import java.util.ArrayList;
import java.util.List;
import java.util.regex.Matcher;
import java.util.regex.Pattern;

/**
 * The document once more, written in another way than the class: lists that are copied, segments that hold their own
 * samples, firings that are found by reading all samples anew, and texts that are read by a pattern. RandomRunsTest
 * compares the two.
 */
final class Model {
    static final int NO_SUCH = -1, BAD_VALUE = -2, BAD_TEXT = -3, TOO_MANY = -4, NOT_POSSIBLE = -5, NONE = -6;
    private static final int[][] RANGES = {
        {0, 2, 0}, {-100, 100, 0}, {0, 50, 2}, {-100, 100, -20}, {-100, 100, 20},
        {1, 32, 8}, {0, 31, 2}, {0, 60, 4}, {1, 6, 4}, {0, 1, 0}};
    private static final String NUMBER = "(?:100|[1-9][0-9]|[0-9])";
    private static final String SAMPLE = "-?" + NUMBER + "(?:\\*" + NUMBER + ")?";
    private static final String ORDER = "(?:" + SAMPLE + "(?:," + SAMPLE + ")*|k[0-2]|l-?" + NUMBER + "|c)";
    private static final Pattern TEXT = Pattern.compile(ORDER + "(?:;" + ORDER + ")*");

    private record Segment(int trigger, int pre, int kind, List<Integer> samples) {
        int behind() {
            return samples.size() - pre - 1;
        }
    }

    private static final class State {
        int[] settings = new int[10];
        List<Integer> samples = new ArrayList<>();
        List<Segment> kept = new ArrayList<>();
        /** The samples from here on went through the detector since it was last put off. */
        int seenFrom = 0;
        int firings = 0, triggers = 0, completed = 0;
        /** As many samples had come when the last segment was complete. */
        int completeAt = 0;
        int trigger = -1, depth = 0, pre = 0, kind = 0;

        State copy() {
            State other = new State();
            other.settings = settings.clone();
            other.samples = new ArrayList<>(samples);
            other.kept = new ArrayList<>(kept);
            other.seenFrom = seenFrom;
            other.firings = firings;
            other.triggers = triggers;
            other.completed = completed;
            other.completeAt = completeAt;
            other.trigger = trigger;
            other.depth = depth;
            other.pre = pre;
            other.kind = kind;
            return other;
        }
    }

    private State now = new State();
    private final List<State> history = new ArrayList<>();
    private final State[] slots = new State[2];
    private String pad = "";

    Model() {
        for (int i = 0; i < 10; i++) {
            now.settings[i] = RANGES[i][2];
        }
    }

    private void record() {
        history.add(now.copy());
        if (history.size() > 6) {
            history.remove(0);
        }
    }

    int set(int setting, int value) {
        if (setting < 0 || setting > 9 || value < RANGES[setting][0] || value > RANGES[setting][1]) {
            return BAD_VALUE;
        }
        int[] tried = now.settings.clone();
        tried[setting] = value;
        if (tried[3] >= tried[4] || tried[6] >= tried[5] || (setting == 5 || setting == 6) && now.trigger >= 0) {
            return NOT_POSSIBLE;
        }
        record();
        int previous = now.settings[setting];
        doSet(setting, value);
        return previous + 1000;
    }

    private void doSet(int setting, int value) {
        now.settings[setting] = value;
        if (List.of(0, 1, 2, 3, 4).contains(setting)) {
            now.seenFrom = now.samples.size();
        }
        while (now.kept.size() > now.settings[8]) {
            now.kept.remove(0);
        }
    }

    int feed(int value, int times) {
        int error = feedError(value, times);
        if (error != 0) {
            return error;
        }
        record();
        return doFeed(value, times);
    }

    private int feedError(int value, int times) {
        if (Math.abs((long) value) > 100 || times <= 0 || times > 100) {
            return BAD_VALUE;
        }
        return times > 400 - now.samples.size() ? TOO_MANY : 0;
    }

    private int doFeed(int value, int times) {
        int before = now.completed;
        for (int i = 0; i < times; i++) {
            come(value);
        }
        return now.completed - before;
    }

    private void come(int value) {
        int phase = count(2);
        now.samples.add(value);
        String seen = detector(now.seenFrom, now.settings[now.settings[0] == 2 ? 3 : 1]);
        if (seen.endsWith("!")) {
            now.firings++;
            if (phase == 1) {
                now.triggers++;
                now.trigger = now.samples.size() - 1;
                now.depth = now.settings[5];
                now.pre = now.settings[6];
                now.kind = now.settings[0];
            }
        }
        if (now.trigger >= 0 && now.samples.size() == now.trigger - now.pre + now.depth) {
            int first = now.trigger - now.pre;
            while (now.kept.size() >= now.settings[8]) {
                now.kept.remove(0);
            }
            now.kept.add(new Segment(now.trigger, now.pre, now.kind,
                List.copyOf(now.samples.subList(first, first + now.depth))));
            now.completed++;
            now.completeAt = now.samples.size();
            now.trigger = -1;
        }
    }

    /** What the detector was with each sample: o, a or i, and ! behind it where it fired. */
    private String detector(int from, int level) {
        StringBuilder told = new StringBuilder();
        char is = 'o';
        int hyst = now.settings[2];
        int high = now.settings[4];
        for (int v : now.samples.subList(from, now.samples.size())) {
            boolean fired = false;
            if (now.settings[0] == 2) {
                fired = is == 'i' && v < level;
                is = v < level ? 'a' : v >= high ? 'o' : is == 'o' ? 'o' : 'i';
            } else {
                // A fall is a rise of what is upside down.
                int sign = now.settings[0] == 0 ? 1 : -1;
                fired = is == 'a' && sign * v >= sign * level;
                is = fired ? 'o' : sign * v < sign * level - hyst ? 'a' : is;
            }
            told.append(is);
            if (fired) {
                told.append('!');
            }
        }
        return told.toString();
    }

    int clear() {
        record();
        return doClear();
    }

    private int doClear() {
        int kept = now.kept.size();
        now.kept.clear();
        now.samples.clear();
        now.seenFrom = 0;
        now.completeAt = 0;
        now.trigger = -1;
        return kept;
    }

    private boolean has(int segment) {
        return segment >= 0 && segment < now.kept.size();
    }

    int drop(int segment) {
        if (!has(segment)) {
            return NO_SUCH;
        }
        record();
        now.kept.remove(segment);
        return now.kept.size();
    }

    int segment(int segment, int what) {
        if (!has(segment)) {
            return NO_SUCH;
        }
        Segment it = now.kept.get(segment);
        List<Integer> all = it.samples();
        return switch (what) {
            case 0 -> it.trigger();
            case 1 -> all.size();
            case 2 -> it.pre();
            case 3 -> it.kind();
            case 4 -> 1000 + all.stream().mapToInt(v -> v).min().getAsInt();
            case 5 -> 1000 + all.stream().mapToInt(v -> v).max().getAsInt();
            case 6 -> 10000 + all.stream().mapToInt(v -> v).sum();
            case 7 -> {
                int ups = 0;
                for (int i = 1; i < all.size(); i++) {
                    ups += all.get(i) > all.get(i - 1) ? 1 : 0;
                }
                yield ups;
            }
            default -> BAD_VALUE;
        };
    }

    int sampleOf(int segment, int place) {
        if (!has(segment) || place < 0 || place >= now.kept.get(segment).samples().size()) {
            return NO_SUCH;
        }
        return now.kept.get(segment).samples().get(place) + 1000;
    }

    int sample(int number) {
        return number < 0 || number >= now.samples.size() ? NO_SUCH : now.samples.get(number) + 1000;
    }

    int count(int what) {
        if (what >= 10 && what <= 19) {
            return now.settings[what - 10] + 1000;
        }
        int since = now.samples.size() - now.completeAt;
        switch (what) {
            case 0: return now.samples.size();
            case 1: return now.kept.size();
            case 2:
                if (now.trigger >= 0) {
                    return 3;
                }
                if (now.settings[9] == 0 && now.kept.size() >= now.settings[8]) {
                    return 2;
                }
                return since >= Math.max(now.settings[6], now.settings[7]) ? 1 : 0;
            case 3:
                String seen = detector(now.seenFrom, now.settings[now.settings[0] == 2 ? 3 : 1]).replace("!", "");
                return seen.isEmpty() ? 0 : "oai".indexOf(seen.charAt(seen.length() - 1));
            case 4: return now.firings;
            case 5: return now.triggers;
            case 6: return now.firings - now.triggers;
            case 7: return now.completed;
            case 8: return since;
            case 9: return now.trigger < 0 ? 0 : now.trigger - now.pre + now.depth - now.samples.size();
            case 20: return pad.length();
            case 21: return history.size();
            default: return BAD_VALUE;
        }
    }

    int fires(int level) {
        if (level < -100 || level > 100) {
            return BAD_VALUE;
        }
        if (now.settings[0] == 2 && now.settings[4] <= level) {
            return NOT_POSSIBLE;
        }
        return (int) detector(0, level).chars().filter(c -> c == '!').count();
    }

    int bestLevel(int what) {
        if (what < 0 || what > 1) {
            return BAD_VALUE;
        }
        int best = 100;
        for (int level = 100; level >= -100; level--) {
            if (fires(level) >= fires(best)) {
                best = level;
            }
        }
        return what == 0 ? best + 1000 : fires(best);
    }

    int unlike(int one, int other) {
        if (!has(one) || !has(other)) {
            return NO_SUCH;
        }
        Segment a = now.kept.get(one);
        Segment b = now.kept.get(other);
        int sum = 0;
        for (int place = -31; place <= 31; place++) {
            if (-place <= a.pre() && -place <= b.pre() && place <= a.behind() && place <= b.behind()) {
                sum += Math.abs(a.samples().get(a.pre() + place) - b.samples().get(b.pre() + place));
            }
        }
        return sum;
    }

    int nearest(int segment) {
        if (!has(segment)) {
            return NO_SUCH;
        }
        int found = NONE;
        for (int other = now.kept.size() - 1; other >= 0; other--) {
            if (other != segment && (found == NONE || unlike(segment, other) <= unlike(segment, found))) {
                found = other;
            }
        }
        return found;
    }

    int put(long characters) {
        StringBuilder more = new StringBuilder();
        boolean ended = true;
        for (int shift = 56; shift >= 0; shift -= 8) {
            int code = (int) ((characters >> shift) & 0xff);
            if (code == 0 && ended) {
                continue;
            }
            ended = false;
            if (code < 33 || code > 126) {
                return BAD_VALUE;
            }
            more.append((char) code);
        }
        if (ended) {
            return BAD_VALUE;
        }
        if (pad.length() + more.length() > 80) {
            return TOO_MANY;
        }
        pad += more;
        return pad.length();
    }

    int wipe() {
        int length = pad.length();
        pad = "";
        return length;
    }

    int fault() {
        return faultOf(pad);
    }

    static int faultOf(String text) {
        for (int length = 1; length <= text.length(); length++) {
            Matcher matcher = TEXT.matcher(text.substring(0, length));
            if (!matcher.matches() && !matcher.hitEnd()) {
                return length - 1;
            }
        }
        return TEXT.matcher(text).matches() ? NONE : text.length();
    }

    int carryOut() {
        if (fault() != NONE) {
            return BAD_TEXT;
        }
        record();
        int done = 0;
        for (String order : pad.split(";")) {
            if (!carryOutOrder(order)) {
                break;
            }
            done++;
        }
        pad = "";
        return done;
    }

    private boolean carryOutOrder(String order) {
        if (order.equals("c")) {
            doClear();
        } else if (order.startsWith("k")) {
            doSet(0, Integer.parseInt(order.substring(1)));
        } else if (order.startsWith("l")) {
            doSet(1, Integer.parseInt(order.substring(1)));
        } else {
            for (String sample : order.split(",")) {
                String[] parts = sample.split("\\*");
                int value = Integer.parseInt(parts[0]);
                int times = parts.length == 1 ? 1 : Integer.parseInt(parts[1]);
                if (feedError(value, times) != 0) {
                    return false;
                }
                doFeed(value, times);
            }
        }
        return true;
    }

    int undo() {
        if (history.isEmpty()) {
            return NOT_POSSIBLE;
        }
        now = history.remove(history.size() - 1);
        return history.size();
    }

    int save(int slot) {
        if (slot != 0 && slot != 1) {
            return BAD_VALUE;
        }
        slots[slot] = now.copy();
        return now.kept.size();
    }

    int restore(int slot) {
        if (slot != 0 && slot != 1) {
            return BAD_VALUE;
        }
        if (slots[slot] == null) {
            return NOT_POSSIBLE;
        }
        record();
        now = slots[slot].copy();
        return now.kept.size();
    }
}
