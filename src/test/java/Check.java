/** Compares answers with those that are due, and counts the wrong ones. */
final class Check {
    private int right = 0;
    private int wrong = 0;

    void due(String call, long got, long want) {
        if (got == want) {
            right++;
        } else {
            wrong++;
            System.out.println(call + " answered " + got + ", due is " + want);
        }
    }

    void due(String what, boolean holds) {
        due(what, holds ? 1 : 0, 1);
    }

    /** Ends the program, with exit code 1 if an answer was wrong. */
    void end(String name) {
        System.out.println(name + ": " + right + " answers are as due, " + wrong + " are not");
        System.exit(wrong == 0 && right > 0 ? 0 : 1);
    }
}
