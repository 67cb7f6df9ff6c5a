/** Compares answers with those that are due, and counts the wrong ones. */
final class Check {
    private final String ahead;
    private final boolean tells;
    private int right = 0;
    private int wrong = 0;

    Check() {
        this("", true);
    }

    /** The text stands ahead of each wrong answer that is told. */
    Check(String ahead, boolean tells) {
        this.ahead = ahead;
        this.tells = tells;
    }

    void due(String call, long got, long want) {
        if (got == want) {
            right++;
        } else {
            wrong++;
            tell(call + " answered " + got + ", due is " + want);
        }
    }

    void due(String what, boolean holds) {
        due(what, holds ? 1 : 0, 1);
    }

    void due(String what, String got, String want) {
        if (got.equals(want)) {
            right++;
        } else {
            wrong++;
            tell(what + "\n  is     " + got + "\n  due is " + want);
        }
    }

    /** The answers of count(from) and of those behind it. */
    void counts(String when, CaptureSegments x, int from, int... wants) {
        for (int i = 0; i < wants.length; i++) {
            due(when + ": count(" + (from + i) + ")", x.count(from + i), wants[i]);
        }
    }

    private void tell(String line) {
        if (tells) {
            System.out.println(ahead + line);
        }
    }

    void add(Check other) {
        right += other.right;
        wrong += other.wrong;
    }

    /** Whether something was compared, and nothing was wrong. */
    boolean passed() {
        return wrong == 0 && right > 0;
    }

    /** Ends the program, with exit code 1 if an answer was wrong. */
    void end(String name) {
        System.out.println(name + ": " + right + " answers are as due, " + wrong + " are not");
        System.exit(passed() ? 0 : 1);
    }
}
