import java.util.concurrent.Callable;

/**
 * "a call that throws changes nothing but that the text is used up": of two objects with the same
 * past one gets a call that throws; from then on both must answer alike, whatever is asked.
 */
public final class ThrowTest extends Calls {
    private static final String[] FEW = {"1.0.0;1 *;2 <3", "2.0.0;1 9", "1.0.0;3 *", "2.0.0-a", "1.0.0", "2.0.0+b",
        "1.0.0;0 *", "3.0.0"};
    private static final int[] FEW_PACKS = {0, 0, 1, 1, 2, 2, 3, 2};

    public static void main(String[] args) {
        begin("a call that throws changes nothing but that the text is used up");
        for (int kind = 0; kind < 4; kind++) {
            throwsAll(kind);
        }
        end();
    }

    private static Callable<Object> wanting(int pack) {
        return () -> {
            x.want(pack);
            return DONE;
        };
    }

    private static void throwsAll(int kind) {
        int beyond = kind == 3 ? 40 : FEW.length;
        String same = kind == 3 ? "1.0.8" : "2.0.0+x;0 *";
        readerThrows(kind, "publish(8)", INDEX, "9.0.0", () -> x.publish(8));
        readerThrows(kind, "publish(-1)", INDEX, "9.0.0", () -> x.publish(-1));
        readerThrows(kind, "publish(0)", ARGUMENT, "9.0.0;1 *;1 *", () -> x.publish(0));
        readerThrows(kind, "publish(0)", ARGUMENT, "", () -> x.publish(0));
        readerThrows(kind, "publish(0)", STATE, same, () -> x.publish(0));
        if (kind == 3) {
            readerThrows(kind, "publish(0)", UNSUPPORTED, "9.0.0;1 *", () -> x.publish(0));
            readerThrows(kind, "publish(7)", UNSUPPORTED, "0.0.0-a", () -> x.publish(7));
        }
        readerThrows(kind, "want(8)", INDEX, "9", wanting(8));
        readerThrows(kind, "want(0)", ARGUMENT, "9,", wanting(0));
        readerThrows(kind, "want(0)", ARGUMENT, "9,9,9,9,9", wanting(0));
        readerThrows(kind, "want(7)", ARGUMENT, "", wanting(7));
        readerThrows(kind, "meets(-1)", INDEX, "9", () -> x.meets(-1));
        readerThrows(kind, "meets(" + beyond + ")", INDEX, "9", () -> x.meets(beyond));
        readerThrows(kind, "meets(0)", ARGUMENT, "9.", () -> x.meets(0));
        readerThrows(kind, "best(8)", INDEX, "9", () -> x.best(8));
        readerThrows(kind, "best(0)", ARGUMENT, "9.", () -> x.best(0));
        otherThrows(kind, "feed(-1, 0)", ARGUMENT, () -> x.feed(-1, 0));
        otherThrows(kind, "feed(-1, 9)", ARGUMENT, () -> x.feed(-1, 9));
        otherThrows(kind, "yank(-1, true)", INDEX, () -> x.yank(-1, true));
        otherThrows(kind, "yank(beyond, true)", INDEX, () -> x.yank(beyond, true));
        otherThrows(kind, "yank(beyond, false)", INDEX, () -> x.yank(beyond + 64, false));
        otherThrows(kind, "drop(8)", INDEX, () -> x.drop(8));
        otherThrows(kind, "drop(-1)", INDEX, () -> x.drop(-1));
        otherThrows(kind, "chosen(8)", INDEX, () -> x.chosen(8));
        otherThrows(kind, "pin(beyond)", INDEX, () -> x.pin(beyond));
        otherThrows(kind, "pin(-1)", INDEX, () -> x.pin(-1));
        otherThrows(kind, "compare(0, beyond)", INDEX, () -> x.compare(0, beyond));
        otherThrows(kind, "needs(beyond, 0)", INDEX, () -> x.needs(beyond, 0));
        otherThrows(kind, "fileByte(-1)", INDEX, () -> x.fileByte(-1));
        otherThrows(kind, "fileByte(999)", INDEX, () -> x.fileByte(999));
        if (kind == 2) {
            otherThrows(kind, "solve()", STATE, () -> x.solve());
        }
        fullTextThrows(kind);
    }

    /** 0 is new but for its versions, 1 has all of it, 2 has no solution now, 3 has forty versions. */
    private static void build(int kind) {
        fresh();
        for (int v = 0; v < (kind == 3 ? 40 : FEW.length); v++) {
            publish(kind == 3 ? v % 8 : FEW_PACKS[v], kind == 3 ? "1.0." + v : FEW[v], v);
        }
        if (kind == 0) {
            return;
        }
        want(0, kind == 3 ? "<1.0.30" : "*", DONE);
        want(2, "*", DONE);
        outcome(() -> x.solve());
        outcome(() -> x.write());
        yank(4, true, false);
        pin(5, -1);
        pin(0, -1);
        if (kind == 2) {
            want(6, "*", DONE);
        }
    }

    private static void readerThrows(int kind, String call, String due, String text, Callable<Object> got) {
        build(kind);
        String untouched = probed();
        build(kind);
        feed(text);
        due(call + " of \"" + text + "\"", due, got);
        told(4, 0);
        due("all answers behind " + call + " of \"" + text + "\"", untouched, ThrowTest::probed);
    }

    private static void otherThrows(int kind, String call, String due, Callable<Object> got) {
        build(kind);
        feed("=1.0.");
        String untouched = readAndProbed("0");
        build(kind);
        feed("=1.0.");
        due(call, due, got);
        told(4, 5);
        due("all answers behind " + call, untouched, () -> readAndProbed("0"));
    }

    private static void fullTextThrows(int kind) {
        build(kind);
        String blanks = " ".repeat(154);
        feed(blanks + "=1.0.0");
        String untouched = readAndProbed("");
        build(kind);
        feed(blanks + "=1.0.0");
        due("feed(-1, 1)", STATE, () -> x.feed(-1, 1));
        due("feed(-1, 8)", STATE, () -> x.feed(-1, 8));
        told(4, 160);
        due("all answers behind feed(-1, 8)", untouched, () -> readAndProbed(""));
    }

    private static String readAndProbed(String more) {
        feed(more);
        return outcome(() -> x.meets(0)) + probed();
    }

    /** The answers of many calls, which tell all that the object holds; it is not the same afterwards. */
    private static String probed() {
        StringBuilder all = new StringBuilder();
        for (int what = 0; what <= 4; what++) {
            int each = what;
            all.append(outcome(() -> x.told(each))).append(' ');
        }
        for (int pack = 0; pack < 8; pack++) {
            int each = pack;
            all.append(outcome(() -> x.chosen(each))).append(' ');
        }
        fileTo(all);
        solvedTo(all);
        int count = x.told(0);
        for (int version = 0; version < count; version++) {
            versionTo(all, version, count);
        }
        solvedTo(all);
        all.append(outcome(() -> x.unlock())).append(' ');
        solvedTo(all);
        for (int pack = 0; pack < 8; pack++) {
            int each = pack;
            all.append(outcome(() -> x.drop(each))).append(' ');
        }
        feed("9.0.0");
        all.append(outcome(() -> x.publish(7)));
        return all.toString();
    }

    private static void fileTo(StringBuilder all) {
        for (int i = 0; i < 24; i++) {
            int each = i;
            all.append(outcome(() -> x.fileByte(each))).append(' ');
        }
    }

    private static void solvedTo(StringBuilder all) {
        all.append(outcome(() -> x.solve())).append(' ');
        all.append(outcome(() -> x.write())).append(' ');
        fileTo(all);
    }

    private static void versionTo(StringBuilder all, int version, int count) {
        all.append(outcome(() -> x.needs(version, 0))).append(' ');
        all.append(outcome(() -> x.compare(version, (version + 1) % count))).append(' ');
        all.append(outcome(() -> x.yank(version, false))).append(' ');
        all.append(outcome(() -> x.pin(version))).append(' ');
    }
}
