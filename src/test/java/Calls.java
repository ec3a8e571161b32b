import java.nio.charset.StandardCharsets;
import java.util.concurrent.Callable;

/** What the tests have in common: an object under test, its calls, and the answers that are due. */
abstract class Calls {
    static final String INDEX = "IndexOutOfBoundsException";
    static final String ARGUMENT = "IllegalArgumentException";
    static final String STATE = "IllegalStateException";
    static final String UNSUPPORTED = "UnsupportedOperationException";
    static final String DONE = "done";
    static final int[] WRONG_PACKS = {-1, 8, 9, 40, 256, 1 << 30, Integer.MAX_VALUE, Integer.MIN_VALUE};
    /** What an object answers behind so many calls is free, so no test may look at it. */
    static final int MOST_CALLS = 512;

    static VersionSolver x = new VersionSolver();

    private static String about = "";
    private static int right = 0;
    private static int wrong = 0;
    private static int calls = 0;

    /** A new object; what is wrong from now on is told with these words of the document. */
    static void begin(String words) {
        about = words;
        fresh();
    }

    static void fresh() {
        x = new VersionSolver();
        calls = 0;
    }

    static int callsSoFar() {
        return calls;
    }

    /** Tells how it went, and ends with exit code 1 if an answer was wrong. */
    static void end() {
        System.out.println(right + " answers as due, " + wrong + " not");
        if (wrong != 0) {
            System.exit(1);
        }
    }

    static String outcome(Callable<Object> call) {
        calls++;
        try {
            return String.valueOf(call.call());
        } catch (Exception e) {
            return e.getClass().getSimpleName() + (isByThrowStatement(e) ? "" : " by itself");
        }
    }

    /** A call throws by a throw statement of the program alone, never through a list or a row. */
    private static boolean isByThrowStatement(Exception e) {
        StackTraceElement[] trace = e.getStackTrace();
        return trace.length > 0 && trace[0].getClassName().startsWith("VersionSolver");
    }

    static void due(String call, Object want, Callable<Object> got) {
        String answer = outcome(got);
        if (calls > MOST_CALLS) {
            wrong++;
            System.out.println(about + ": the test makes more than " + MOST_CALLS + " calls on one object");
        }
        if (answer.equals(String.valueOf(want))) {
            right++;
        } else {
            wrong++;
            System.out.println(about + ": " + call + " answered " + answer + ", due is " + want);
        }
    }

    static long packed(byte[] bytes, int from, int n) {
        long eight = 0;
        for (int i = 0; i < n; i++) {
            eight |= (bytes[from + i] & 255L) << 8 * i;
        }
        return eight;
    }

    static void feed(String text) {
        byte[] bytes = text.getBytes(StandardCharsets.ISO_8859_1);
        for (int at = 0; at < bytes.length; at += 8) {
            int n = Math.min(8, bytes.length - at);
            x.feed(packed(bytes, at, n), n);
            calls++;
        }
    }

    static void publish(int pack, String text, Object want) {
        due("publish(" + pack + ") of \"" + text + "\"", want, () -> {
            feed(text);
            return x.publish(pack);
        });
    }

    static void want(int pack, String text, Object want) {
        due("want(" + pack + ") of \"" + text + "\"", want, () -> {
            feed(text);
            x.want(pack);
            return DONE;
        });
    }

    static void meets(int version, String text, Object want) {
        due("meets(" + version + ") of \"" + text + "\"", want, () -> {
            feed(text);
            return x.meets(version);
        });
    }

    static void best(int pack, String text, Object want) {
        due("best(" + pack + ") of \"" + text + "\"", want, () -> {
            feed(text);
            return x.best(pack);
        });
    }

    static void told(int what, int want) {
        due("told(" + what + ")", want, () -> x.told(what));
    }

    static void yank(int version, boolean on, Object want) {
        due("yank(" + version + ", " + on + ")", want, () -> x.yank(version, on));
    }

    static void drop(int pack, Object want) {
        due("drop(" + pack + ")", want, () -> x.drop(pack));
    }

    static void chosen(int pack, Object want) {
        due("chosen(" + pack + ")", want, () -> x.chosen(pack));
    }

    static void lock(int want) {
        due("lock()", want, () -> x.lock());
    }

    static void pin(int version, Object want) {
        due("pin(" + version + ")", want, () -> x.pin(version));
    }

    static void unlock(int want) {
        due("unlock()", want, () -> x.unlock());
    }

    static void compare(int version, int other, Object want) {
        due("compare(" + version + ", " + other + ")", want, () -> x.compare(version, other));
    }

    static void needs(int version, int k, Object want) {
        due("needs(" + version + ", " + k + ")", want, () -> x.needs(version, k));
    }

    static void fileByte(int i, Object want) {
        due("fileByte(" + i + ")", want, () -> x.fileByte(i));
    }

    /** What solve() answers, and then what each package has, NONE for those that are not told. */
    static void solve(Object want, int... versions) {
        due("solve()", want, () -> x.solve());
        for (int pack = 0; pack < 8; pack++) {
            chosen(pack, pack < versions.length ? versions[pack] : VersionSolver.NONE);
        }
    }

    static void noSolution(int... chosenBefore) {
        solve(STATE, chosenBefore);
    }

    /** Writes the file, and looks at each of its bytes, and at the two places beside it. */
    static void file(String want) {
        due("write()", want.length(), () -> x.write());
        fileIs(want);
    }

    static void fileIs(String want) {
        fileByte(-1, INDEX);
        for (int i = 0; i < want.length(); i++) {
            fileByte(i, (int) want.charAt(i));
        }
        fileByte(want.length(), INDEX);
    }
}
