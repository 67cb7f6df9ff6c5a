import java.util.Random;

/** Runs of 512 calls, the same ones each time, whose answers are compared with those of the model. */
public final class RandomRunsTest {
    private static final int RUNS = 1500, CALLS = 512;
    private static final int[] EDGES = {
        Integer.MIN_VALUE, Integer.MIN_VALUE + 1, -1001, -102, -101, -100, -99, -21, -20, -2, -1, 0, 1, 2, 3, 5, 6, 7, 8,
        9, 10, 20, 21, 22, 23, 31, 32, 33, 50, 51, 60, 61, 79, 80, 81, 99, 100, 101, 399, 400, 401, 1 << 30,
        Integer.MAX_VALUE - 1, Integer.MAX_VALUE};

    private final Random random;
    private final Check check;
    private final String run;
    private final CaptureSegments real = new CaptureSegments();
    private final Model model = new Model();
    /** How wide the samples swing in this run, and how wild its arguments are. */
    private final int swing;
    private final int wild;
    private final boolean longFeeds;
    private String text = "";

    private RandomRunsTest(int seed, Check check) {
        random = new Random(seed);
        this.check = check;
        run = "run " + seed + ", call ";
        swing = new int[] {3, 10, 40, 100}[random.nextInt(4)];
        wild = new int[] {0, 3, 30}[random.nextInt(3)];
        longFeeds = random.nextInt(3) == 0;
    }

    public static void main(String[] args) {
        Check check = new Check();
        for (int seed = 0; seed < RUNS; seed++) {
            new RandomRunsTest(seed, check).go();
        }
        check.end("RandomRunsTest");
    }

    private void go() {
        for (int call = 0; call < CALLS; call++) {
            if (call < 12 && random.nextInt(3) > 0) {
                call(call, 0);
            } else {
                call(call, random.nextInt(100));
            }
        }
    }

    private int number(int least, int greatest) {
        if (random.nextInt(100) < wild) {
            return EDGES[random.nextInt(EDGES.length)];
        }
        return least + random.nextInt(greatest - least + 1);
    }

    private int sample() {
        return number(-swing, swing);
    }

    private void due(int call, String name, int a, int b, long got, long want) {
        check.due(run + call + ": " + name + "(" + a + ", " + b + ")", got, want);
    }

    private void call(int call, int dice) {
        if (dice < 12) {
            callSet(call);
        } else if (dice < 45) {
            int a = sample();
            int b = longFeeds ? number(1, 100) : number(1, 1 + random.nextInt(6));
            due(call, "feed", a, b, real.feed(a, b), model.feed(a, b));
        } else if (dice < 58) {
            int a = number(0, 21);
            due(call, "count", a, 0, real.count(a), model.count(a));
        } else if (dice < 76) {
            callQuestion(call, dice);
        } else if (dice < 90) {
            callText(call, dice);
        } else {
            callState(call, dice);
        }
    }

    private void callSet(int call) {
        int a = number(0, 9);
        int b;
        switch (a) {
            case 0: b = number(0, 2); break;
            case 1: case 3: case 4: b = sample(); break;
            case 2: b = number(0, Math.min(50, swing)); break;
            case 5: b = number(1, random.nextBoolean() ? 6 : 32); break;
            case 6: b = number(0, random.nextBoolean() ? 3 : 31); break;
            case 7: b = number(0, random.nextBoolean() ? 3 : 60); break;
            case 8: b = number(1, 6); break;
            default: b = number(0, 1);
        }
        due(call, "set", a, b, real.set(a, b), model.set(a, b));
    }

    private void callQuestion(int call, int dice) {
        int a = number(0, 5);
        int b = number(0, 7);
        switch (dice) {
            case 58: case 59: case 60: case 61: case 62:
                due(call, "segment", a, b, real.segment(a, b), model.segment(a, b)); break;
            case 63: case 64:
                due(call, "sampleOf", a, b, real.sampleOf(a, b), model.sampleOf(a, b)); break;
            case 65:
                int n = number(0, 399);
                due(call, "sample", n, 0, real.sample(n), model.sample(n)); break;
            case 66: case 67: case 68:
                int level = sample();
                due(call, "fires", level, 0, real.fires(level), model.fires(level)); break;
            case 69:
                if (random.nextInt(4) == 0) {
                    int what = number(0, 1);
                    due(call, "bestLevel", what, 0, real.bestLevel(what), model.bestLevel(what));
                }
                break;
            case 70: case 71: case 72:
                due(call, "unlike", a, b, real.unlike(a, b), model.unlike(a, b)); break;
            default:
                due(call, "nearest", a, 0, real.nearest(a), model.nearest(a));
        }
    }

    private void callText(int call, int dice) {
        if (dice < 84) {
            if (text.isEmpty()) {
                text = newText();
            }
            int many = Math.min(text.length(), 1 + random.nextInt(8));
            long packed = 0;
            for (int i = 0; i < many; i++) {
                packed = packed << 8 | text.charAt(i);
            }
            text = text.substring(many);
            if (random.nextInt(200) < wild) {
                packed = random.nextBoolean() ? random.nextLong() : packed & ~(255L << 8 * random.nextInt(8));
            }
            check.due(run + call + ": put(" + packed + ")", real.put(packed), model.put(packed));
        } else if (dice < 86 && random.nextInt(3) == 0) {
            text = "";
            due(call, "wipe", 0, 0, real.wipe(), model.wipe());
        } else if (dice < 88 || !text.isEmpty()) {
            due(call, "fault", 0, 0, real.fault(), model.fault());
        } else {
            due(call, "carryOut", 0, 0, real.carryOut(), model.carryOut());
        }
    }

    private String newText() {
        StringBuilder made = new StringBuilder();
        int orders = 1 + random.nextInt(4);
        for (int i = 0; i < orders; i++) {
            made.append(made.length() == 0 && real.count(20) <= 0 ? "" : ";");
            int dice = random.nextInt(12);
            if (dice == 0) {
                made.append('c');
            } else if (dice == 1) {
                made.append('k').append(random.nextInt(3));
            } else if (dice < 4) {
                made.append('l').append(random.nextInt(2 * swing + 1) - swing);
            } else {
                int samples = 1 + random.nextInt(5);
                for (int j = 0; j < samples; j++) {
                    made.append(j == 0 ? "" : ",").append(random.nextInt(2 * swing + 1) - swing);
                    if (random.nextInt(3) == 0) {
                        made.append('*').append(random.nextInt(longFeeds ? 101 : 9));
                    }
                }
            }
        }
        if (random.nextInt(100) < 10 + wild) {
            made.setCharAt(random.nextInt(made.length()), "0123456789-*,;klcx".charAt(random.nextInt(18)));
        }
        return made.toString();
    }

    private void callState(int call, int dice) {
        int a = number(0, 1);
        if (dice < 92) {
            int segment = number(0, 5);
            due(call, "drop", segment, 0, real.drop(segment), model.drop(segment));
        } else if (dice < 96) {
            due(call, "undo", 0, 0, real.undo(), model.undo());
        } else if (dice < 98) {
            due(call, "save", a, 0, real.save(a), model.save(a));
        } else if (dice < 99) {
            due(call, "restore", a, 0, real.restore(a), model.restore(a));
        } else if (random.nextInt(3) == 0) {
            due(call, "clear", 0, 0, real.clear(), model.clear());
        }
    }
}
