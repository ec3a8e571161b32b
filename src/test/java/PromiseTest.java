/** Each promise of the document with ordinary inputs, its edges and wrong inputs. */
public final class PromiseTest extends Calls {
    public static void main(String[] args) {
        promise1NewObject();
        promise2Feed();
        promise3PublishRight();
        promise3PublishWrong();
        promise3PublishOrderOfExceptions();
        promise4Yank();
        promise5Want();
        promise5WantWrong();
        promise6Drop();
        promise7SolveOrder();
        promise7SolveRequirements();
        promise7SolveReached();
        promise7SolveYankedAndPinned();
        promise7SolveHard();
        promise8Chosen();
        promise9Lock();
        promise10Pin();
        promise11Unlock();
        promise12MeetsSigns();
        promise12MeetsWords();
        promise12MeetsWrong();
        promise13Best();
        promise14Compare();
        promise15Needs();
        promise16Told();
        promise17Write();
        promise18FileByte();
        end();
    }

    private static void promise1NewObject() {
        begin("promise 1");
        due("NONE", -1, () -> VersionSolver.NONE);
        for (int what = 0; what < 5; what++) {
            told(what, 0);
        }
        fileByte(0, INDEX);
        chosen(0, -1);
        lock(0);
        due("write()", 0, () -> x.write());
        unlock(0);
        solve(0);
        compare(0, 0, INDEX);
        VersionSolver other = new VersionSolver();
        publish(0, "1.0.0", 0);
        due("told(0) of another object", 0, () -> other.told(0));
    }

    private static void promise2Feed() {
        begin("promise 2");
        due("feed(0, 0)", ARGUMENT, () -> x.feed(0, 0));
        due("feed(0, -1)", ARGUMENT, () -> x.feed(0, -1));
        due("feed(0, 9)", ARGUMENT, () -> x.feed(0, 9));
        due("feed(0, MIN)", ARGUMENT, () -> x.feed(0, Integer.MIN_VALUE));
        due("feed(0, MAX)", ARGUMENT, () -> x.feed(0, Integer.MAX_VALUE));
        told(4, 0);
        // "1.2", and bytes above the lowest three that must not come along.
        due("feed of 3", 3, () -> x.feed(0x7878787878322e31L, 3));
        due("feed of 2", 5, () -> x.feed(0x302eL, 2));
        due("publish", 0, () -> x.publish(0));
        told(4, 0);
        for (int k = 1; k <= 20; k++) {
            int length = 8 * k;
            due("feed of 8", length, () -> x.feed(-1L, 8));
        }
        due("feed of 1 beyond 160", STATE, () -> x.feed(0, 1));
        due("feed of 9 beyond 160", ARGUMENT, () -> x.feed(0, 9));
        told(4, 160);
        due("want", ARGUMENT, () -> {
            x.want(0);
            return DONE;
        });
        told(4, 0);
        feed(" ".repeat(155) + "1");
        due("feed of 5 behind 156", STATE, () -> x.feed(0x2020202020L, 5));
        told(4, 156);
        due("feed of 4 behind 156", 160, () -> x.feed(0x20202020L, 4));
        due("best", 0, () -> x.best(0));
    }

    private static void promise3PublishRight() {
        begin("promise 3");
        String[] versions = {"0.0.0", "999999999.999999999.9999", "1.2.3-a", "1.2.3-0", "1.2.3--", "1.2.3---1.-0",
            "1.2.3-0a", "1.2.3-00a.0-0", "1.2.3-999999999", "1.2.4-a+b", "1.2.5+001.0a.-", "1.2.6-0.a.Z-9+0.00",
            "1.2.3-aaaaaaaaaaaaaaaaaa", "1.2.7+aaaaaaaaaaaaaaaaaa", "10.20.30"};
        for (int v = 0; v < versions.length; v++) {
            publish(v % 8, versions[v], v);
        }
        int next = versions.length;
        publish(0, "2.0.0;0 *", next);
        publish(0, "2.0.1;7 1;6 2;5 3;4 4;3 5", next + 1);
        publish(0, "2.0.2;2   ^1 , ~2 ,*, <=3.4.5-a.b  ;3 =1", next + 2);
        publish(0, "2.0.3;0 1.*;1 1.2.*", next + 3);
        told(0, next + 4);
        publish(1, "2.0.3", next + 4);
    }

    private static void promise3PublishWrong() {
        begin("promise 3");
        String[] texts = {"", "1", "1.2", "1.2.", "1.2.3.", "1.2.3.4", ".1.2", "1..2", "a.b.c", "01.2.3", "1.02.3",
            "1.2.03", "00.0.0", "1000000000.0.0", "0.1000000000.0", "0.0.1000000000", "1.2.3-", "1.2.3-.a", "1.2.3-a.",
            "1.2.3-a..b", "1.2.3-01", "1.2.3-a.00", "1.2.3-1000000000", "1.2.3+", "1.2.3+a.", "1.2.3+.a", "1.2.3-a+",
            "1.2.3+a+b", "1.2.3-+a", "1.2.3-a_b", "1.2.3-\u00e4", "1.2.3-a b", "v1.2.3", "=1.2.3", "1.2.3 ", " 1.2.3",
            "1 .2.3", "1.2.3\n", "1.2.3-aaaaaaaaaaaaaaaaaaa", "1.2.7+aaaaaaaaaaaaaaaaaaa", "1.2.3-aaaaaaaa+aaaaaaaaaa",
            "999999999.999999999.10000", "1.2.*", "*", "1.2.3,1.2.4", "1.2.3-@", "1.2.3-[", "1.2.3-`", "1.2.3-{",
            "1.2.3-/", "1.2.3-:", "-1.2.3", "+1.2.3"};
        for (String text : texts) {
            publish(0, text, ARGUMENT);
        }
        String[] needs = {";", ";1", ";1 ", ";1*", ";8 *", ";9 *", ";a *", "; *", ";1 *;", ";1 *;1 *", ";1 *;2 *;1 1",
            " ;1 *", "; 1 *", ";1 * *", ";1 *,", ";1 ,*", ";1 *,,*", ";1 1,2,3,4,5", ";1 1.2.3+a", ";1 *;;2 *", ";12 *",
            ";1 1.2.3.4", ";0 *;1 *;2 *;3 *;4 *;5 *", ";1 *,1 *", ";1\t*", ";1 >= 1", ";1 ^*", ";-1 *", ";/ *", ";: *"};
        for (String text : needs) {
            publish(0, "1.2.3" + text, ARGUMENT);
        }
        told(0, 0);
        told(4, 0);
        for (int pack : WRONG_PACKS) {
            publish(pack, "1.2.3", INDEX);
            told(4, 0);
        }
        told(0, 0);
        publish(0, "1.2.3", 0);
    }

    private static void promise3PublishOrderOfExceptions() {
        begin("promise 3");
        publish(8, "x", INDEX);
        publish(0, "1.0.0", 0);
        publish(0, "1.0.0", STATE);
        publish(0, "1.0.0+b", STATE);
        publish(0, "1.0.0;1 *", STATE);
        publish(0, "1.0.0;1", ARGUMENT);
        publish(0, "1.0.0-a+c", 1);
        publish(0, "1.0.0-a+d", STATE);
        publish(1, "1.0.0", 2);
        for (int v = 3; v < 40; v++) {
            publish(v % 8, "2.0." + v, v);
        }
        publish(0, "3.0.0", UNSUPPORTED);
        publish(0, "1.0.0+z", STATE);
        publish(0, "3.0", ARGUMENT);
        publish(8, "3.0.0", INDEX);
        told(0, 40);
        told(4, 0);
        compare(39, 0, 1);
        compare(40, 0, INDEX);
    }

    private static void promise4Yank() {
        begin("promise 4");
        yank(0, true, INDEX);
        publish(0, "1.0.0", 0);
        publish(0, "2.0.0", 1);
        yank(-1, true, INDEX);
        yank(2, true, INDEX);
        yank(Integer.MAX_VALUE, false, INDEX);
        yank(64, true, INDEX);
        yank(1, false, false);
        yank(1, true, false);
        yank(1, true, true);
        told(1, 1);
        best(0, "*", 0);
        yank(1, false, true);
        yank(1, false, false);
        told(1, 0);
        best(0, "*", 1);
    }

    private static void promise5Want() {
        begin("promise 5");
        String[] texts = {"*", "1", "1.2", "1.2.3", "^1", "~1.2", "=1.2.3", ">0", ">=0.0", "<1.2.3-a.0", "<=1", "1.*",
            "1.2.*", "0.*", "1,2,3,4", "  1  ,  2  ", " * ", "1.2.3--", "1.2.3-0a", "999999999", "~999999999.999999999",
            ">=999999999.999999999.9999", "1.2.3-aaaaaaaaaaaaaaaaaa"};
        for (int k = 0; k < texts.length; k++) {
            want(k % 8, texts[k], DONE);
            told(2, Math.min(k + 1, 8));
        }
        begin("promise 5");
        publish(3, "1.0.0", 0);
        publish(3, "2.0.0", 1);
        want(3, "1", DONE);
        solve(1, -1, -1, -1, 0);
        want(3, "2", DONE);
        told(2, 1);
        solve(1, -1, -1, -1, 1);
        want(3, "3.", ARGUMENT);
        solve(1, -1, -1, -1, 1);
    }

    private static void promise5WantWrong() {
        begin("promise 5");
        String[] texts = {"", " ", "1.", ".1", "01", "1.02", "1.2.03", "^", "^ 1", "^^1", ">=>1", "=>1", "==1", "><1",
            "!1", "1 .2", "1. 2", "1 2", "1.2.3.4", "1.2.3-", "1.2.3-a..b", "1.2.3-01", "1.2.3+x", "1.2.3-a+x", "1-a",
            "1.2-a", "*.1", "^*", "~*", "=1.*", ">=1.2.*", "1.*.3", "1.2.3.*", "1.2.3-*", "1.*-a", "**", "1**", "1,2,3,4,5",
            "1,,2", ",1", "1,", ",", "1;2", "1000000000", "1.1000000000", "1.2.1000000000", "1.2.3-1234567890", "x", "v1",
            "X", "1.x", "1\t", "\n1", "1.2.3-a.", "999999999.999999999.10000", "1.2.3-aaaaaaaaaaaaaaaaaaa",
            "^1.2.3-aaaaaaaaaaaaaaaaaaa", "1.2.3-\u00ff", "\u00ff", "1\u0000", "1,2,3,4,"};
        for (String text : texts) {
            want(1, text, ARGUMENT);
            told(4, 0);
        }
        told(2, 0);
        for (int pack : WRONG_PACKS) {
            want(pack, "*", INDEX);
            told(4, 0);
        }
        want(8, "x", INDEX);
        told(2, 0);
    }

    private static void promise6Drop() {
        begin("promise 6");
        for (int pack : WRONG_PACKS) {
            drop(pack, INDEX);
        }
        drop(0, false);
        want(0, "*", DONE);
        want(7, "*", DONE);
        noSolution();
        drop(1, false);
        drop(0, true);
        drop(0, false);
        told(2, 1);
        drop(7, true);
        told(2, 0);
        solve(0);
    }

    private static void promise7SolveOrder() {
        begin("promise 7");
        publish(0, "1.0.0", 0);
        publish(0, "3.0.0", 1);
        publish(0, "2.0.0", 2);
        want(0, "*", DONE);
        solve(1, 1);
        want(0, "<3", DONE);
        solve(1, 2);
        // The first package decides before the second one, though the second one loses more.
        begin("promise 7");
        publish(0, "1.0.0;1 *", 0);
        publish(0, "2.0.0;1 1", 1);
        publish(1, "1.0.0", 2);
        publish(1, "9.0.0", 3);
        want(1, "*", DONE);
        solve(1, -1, 3);
        want(0, "*", DONE);
        solve(2, 1, 2);
        // None comes before any version: package 0 is shunned at the cost of a lower version in 1.
        begin("promise 7");
        publish(1, "2.0.0;0 *", 0);
        publish(1, "1.0.0", 1);
        publish(0, "1.0.0", 2);
        want(1, "*", DONE);
        solve(1, -1, 1);
        // And a lower version in package 0 lets package 1 do without.
        begin("promise 7");
        publish(0, "2.0.0;1 *", 0);
        publish(0, "1.0.0", 1);
        publish(1, "1.0.0", 2);
        want(0, "*", DONE);
        solve(2, 0, 2);
    }

    private static void promise7SolveRequirements() {
        begin("promise 7");
        want(0, "*", DONE);
        noSolution();
        publish(0, "1.0.0-a", 0);
        noSolution();
        want(0, ">=1.0.0-a", DONE);
        solve(1, 0);
        // A need of a package without versions rules the version out.
        publish(0, "1.0.0;5 *", 1);
        solve(1, 0);
        publish(5, "1.0.0;0 <1.0.0-z", 2);
        solve(1, 0);
        publish(5, "0.9.0;0 1.0.0-a", 3);
        solve(2, 1, -1, -1, -1, -1, 3);
        // What it requires of itself must hold.
        begin("promise 7");
        publish(2, "1.0.0;2 ^1", 0);
        publish(2, "2.0.0;2 ^1", 1);
        publish(2, "3.0.0;2 ~2", 2);
        want(2, "*", DONE);
        solve(1, -1, -1, 0);
        want(2, ">1", DONE);
        noSolution(-1, -1, 0);
        // The root's and all the versions' requirements on one package hold together.
        begin("promise 7");
        publish(0, "1.0.0;2 >=2", 0);
        publish(1, "1.0.0;2 <=3", 1);
        for (int v = 1; v <= 4; v++) {
            publish(2, v + ".0.0", v + 1);
        }
        want(0, "*", DONE);
        want(1, "*", DONE);
        solve(3, 0, 1, 4);
        want(2, "<3", DONE);
        solve(3, 0, 1, 3);
        want(2, "<2", DONE);
        noSolution(0, 1, 3);
    }

    private static void promise7SolveReached() {
        // Packages that hold one another only, or themselves, are not reached.
        begin("promise 7");
        publish(0, "1.0.0;1 *", 0);
        publish(1, "1.0.0;0 *", 1);
        publish(2, "1.0.0;2 *", 2);
        publish(3, "1.0.0", 3);
        solve(0);
        want(3, "*", DONE);
        solve(1, -1, -1, -1, 3);
        drop(3, true);
        want(1, "*", DONE);
        solve(2, 0, 1);
        // A pinned version is not in a solution for that alone.
        pin(2, -1);
        pin(3, -1);
        solve(2, 0, 1);
        // A version that would help nobody does not come in, and a late package leads to early ones.
        begin("promise 7");
        publish(7, "1.0.0;6 *", 0);
        publish(6, "1.0.0;0 *", 1);
        publish(0, "1.0.0", 2);
        publish(1, "1.0.0;0 *", 3);
        want(7, "*", DONE);
        solve(3, 2, -1, -1, -1, -1, -1, 1, 0);
    }

    private static void promise7SolveYankedAndPinned() {
        begin("promise 7");
        publish(0, "1.0.0", 0);
        publish(0, "2.0.0", 1);
        publish(0, "3.0.0", 2);
        want(0, "*", DONE);
        yank(2, true, false);
        solve(1, 1);
        pin(0, -1);
        solve(1, 0);
        pin(2, 0);
        solve(1, 2);
        // Who is pinned must still meet what is required, and others may come instead.
        want(0, "<3", DONE);
        solve(1, 1);
        want(0, "3", DONE);
        solve(1, 2);
        unlock(1);
        noSolution(2);
        // A pin on an early package comes before precedence on a later one, and the reverse.
        begin("promise 7");
        publish(0, "1.0.0;1 1", 0);
        publish(0, "2.0.0;1 2", 1);
        publish(1, "1.0.0", 2);
        publish(1, "2.0.0", 3);
        want(0, "*", DONE);
        pin(2, -1);
        solve(2, 1, 3);
        pin(0, -1);
        solve(2, 0, 2);
        pin(3, 2);
        solve(2, 0, 2);
        // None comes before the pinned version, too.
        begin("promise 7");
        publish(0, "1.0.0", 0);
        publish(1, "2.0.0;0 *", 1);
        publish(1, "1.0.0", 2);
        want(1, "*", DONE);
        pin(0, -1);
        pin(1, -1);
        solve(1, -1, 2);
    }

    /** All forty versions, each of which asks the next packages to be below it, or above it. */
    private static void promise7SolveHard() {
        begin("promise 7");
        int next = 0;
        for (int pack = 0; pack < 8; pack++) {
            for (int v = 1; v <= 5; v++) {
                StringBuilder text = new StringBuilder(v + ".0.0");
                for (int k = 1; k <= 4 && pack + k < 8; k++) {
                    text.append(';').append(pack + k).append(v % 2 == 0 ? " <" : " >").append(v).append(".0.0");
                }
                publish(pack, text.toString(), next);
                next++;
            }
        }
        for (int pack = 0; pack < 8; pack++) {
            want(pack, "*", DONE);
        }
        noSolution();
        drop(7, true);
        noSolution();
    }

    private static void promise8Chosen() {
        begin("promise 8");
        for (int pack : WRONG_PACKS) {
            chosen(pack, INDEX);
        }
        publish(7, "1.0.0", 0);
        want(7, "*", DONE);
        chosen(7, -1);
        solve(1, -1, -1, -1, -1, -1, -1, -1, 0);
        publish(7, "2.0.0", 1);
        chosen(7, 0);
        yank(0, true, false);
        chosen(7, 0);
        want(7, "3", DONE);
        chosen(7, 0);
        noSolution(-1, -1, -1, -1, -1, -1, -1, 0);
        drop(7, true);
        chosen(7, 0);
        unlock(0);
        pin(1, -1);
        chosen(7, 0);
        solve(0);
    }

    private static void promise9Lock() {
        begin("promise 9");
        publish(0, "1.0.0;3 *", 0);
        publish(3, "1.0.0", 1);
        publish(4, "1.0.0", 2);
        pin(2, -1);
        due("lock() with nothing chosen", 0, () -> x.lock());
        told(3, 0);
        pin(2, -1);
        want(0, "*", DONE);
        solve(2, 0, -1, -1, 1);
        publish(0, "2.0.0", 3);
        publish(3, "2.0.0", 4);
        yank(0, true, false);
        drop(0, true);
        lock(2);
        told(3, 2);
        want(0, "*", DONE);
        solve(2, 0, -1, -1, 1);
        pin(2, -1);
        lock(2);
        pin(2, -1);
        want(0, "9", DONE);
        noSolution(0, -1, -1, 1);
        lock(2);
        drop(0, true);
        solve(0);
        lock(0);
        told(3, 0);
    }

    private static void promise10Pin() {
        begin("promise 10");
        pin(0, INDEX);
        publish(0, "1.0.0", 0);
        publish(0, "2.0.0", 1);
        publish(1, "1.0.0", 2);
        pin(-1, INDEX);
        pin(3, INDEX);
        pin(Integer.MIN_VALUE, INDEX);
        told(3, 0);
        pin(0, -1);
        pin(0, 0);
        pin(1, 0);
        pin(2, -1);
        told(3, 2);
        pin(0, 1);
        want(0, "*", DONE);
        solve(1, 0);
        yank(0, true, false);
        pin(0, 0);
        solve(1, 0);
    }

    private static void promise11Unlock() {
        begin("promise 11");
        unlock(0);
        publish(0, "1.0.0", 0);
        publish(0, "2.0.0", 1);
        publish(5, "1.0.0", 2);
        pin(0, -1);
        pin(2, -1);
        want(0, "*", DONE);
        solve(1, 0);
        unlock(2);
        unlock(0);
        told(3, 0);
        solve(1, 1);
        pin(0, -1);
    }

    /** A new object with these versions; one object answers no more than 512 calls. */
    private static void stock(int number, String[] versions) {
        begin("promise " + number);
        for (int v = 0; v < versions.length; v++) {
            publish(v % 8, versions[v], v);
        }
    }

    /** Which of these versions meet a requirement, as a row of 1 and 0. */
    private static void met(String[] versions, String requirement, String row) {
        stock(12, versions);
        for (int v = 0; v < row.length(); v++) {
            meets(v, requirement, row.charAt(v) == '1');
        }
    }

    private static void promise12MeetsSigns() {
        String[] versions = {"0.0.0", "0.0.3", "0.0.4", "0.2.0", "0.2.3", "0.3.0", "1.0.0", "1.2.2", "1.2.3", "1.2.4",
            "1.3.0", "2.0.0", "999999999.0.0"};
        met(versions, "*", "1111111111111");
        met(versions, "1", "0000001111100");
        met(versions, "^1", "0000001111100");
        met(versions, "~1", "0000001111100");
        met(versions, "=1", "0000001111100");
        met(versions, "1.*", "0000001111100");
        met(versions, ">1", "0000000000011");
        met(versions, ">=1", "0000001111111");
        met(versions, "<1", "1111110000000");
        met(versions, "<=1", "1111111111100");
        met(versions, "0", "1111110000000");
        met(versions, "^0", "1111110000000");
        met(versions, "0.*", "1111110000000");
        met(versions, "1.2", "0000000111100");
        met(versions, "^1.2", "0000000111100");
        met(versions, "~1.2", "0000000111000");
        met(versions, "=1.2", "0000000111000");
        met(versions, "1.2.*", "0000000111000");
        met(versions, ">1.2", "0000000000111");
        met(versions, ">=1.2", "0000000111111");
        met(versions, "<1.2", "1111111000000");
        met(versions, "<=1.2", "1111111111000");
        met(versions, "^0.2", "0001100000000");
        met(versions, "0.0", "1110000000000");
        met(versions, "1.2.3", "0000000011100");
        met(versions, "^1.2.3", "0000000011100");
        met(versions, "~1.2.3", "0000000011000");
        met(versions, "=1.2.3", "0000000010000");
        met(versions, ">1.2.3", "0000000001111");
        met(versions, ">=1.2.3", "0000000011111");
        met(versions, "<1.2.3", "1111111100000");
        met(versions, "<=1.2.3", "1111111110000");
        met(versions, "^0.2.3", "0000100000000");
        met(versions, "0.2.0", "0001100000000");
        met(versions, "^0.0.3", "0100000000000");
        met(versions, "^0.0.0", "1000000000000");
        met(versions, "~0.0.3", "0110000000000");
        met(versions, ">999999998", "0000000000001");
        met(versions, "^999999999", "0000000000001");
        met(versions, ">999999999", "0000000000000");
        met(versions, "<=999999999", "1111111111111");
        met(versions, ">=1.2, <2", "0000000111100");
        met(versions, " >0 , <2, >=1.2.3 ,<=1.2.4", "0000000011000");
        met(versions, "1,2", "0000000000000");
    }

    private static void promise12MeetsWords() {
        String[] versions = {"1.0.0-a", "1.0.0-b", "1.0.0-b.1", "1.0.0", "1.0.1-a", "1.1.0-a", "2.0.0-a", "2.0.0",
            "0.0.5-a", "0.0.5"};
        met(versions, "*", "0001000101");
        met(versions, "1", "0001000000");
        met(versions, ">=0", "0001000101");
        met(versions, "1.0.0-b", "0111000000");
        met(versions, "^1.0.0-b", "0111000000");
        met(versions, "~1.0.0-b", "0111000000");
        met(versions, "=1.0.0-b", "0100000000");
        met(versions, "=1.0.0", "0001000000");
        met(versions, ">1.0.0-b", "0011000100");
        met(versions, ">=1.0.0-b", "0111000100");
        met(versions, "<1.0.0-b", "1000000001");
        met(versions, "<=1.0.0-b", "1100000001");
        met(versions, "<1.0.0-b.1", "1100000001");
        met(versions, "<1.0.0", "0000000001");
        met(versions, "<2.0.0-a", "0001000001");
        met(versions, "<=2.0.0-a", "0001001001");
        met(versions, "^0.0.5-a", "0000000011");
        met(versions, "*, >=1.0.0-a", "1111000100");
        met(versions, ">=1.0.0-a, <2.0.0-b", "1111001000");
        // 2.0.0-a is below 2.0.0, and the other comparator names its numbers.
        met(versions, "^1.0.0, <2.0.0-b", "0001001000");
        met(versions, "~1.0.0, >=1.0.0", "0001000000");
        met(versions, "<1.1, >=1.1.0-a", "0000010000");
        met(versions, ">=1.0.0-a, >=1.0.1-a", "0000100100");
        // What is behind + does not count; - behind + is no word behind -.
        begin("promise 12");
        publish(0, "1.0.0+b-c", 0);
        meets(0, "=1.0.0", true);
        meets(0, "*", true);
        publish(0, "1.1.0-a+b", 1);
        meets(1, "=1.1.0-a", true);
        meets(1, "^1", false);
        yank(0, true, false);
        meets(0, "1", true);
    }

    private static void promise12MeetsWrong() {
        begin("promise 12");
        meets(0, "*", INDEX);
        publish(0, "1.0.0", 0);
        meets(-1, "*", INDEX);
        meets(1, "x", INDEX);
        told(4, 0);
        meets(0, "x", ARGUMENT);
        told(4, 0);
        meets(0, "", ARGUMENT);
        meets(0, "1.0.0+a", ARGUMENT);
        meets(0, "1.0.0;1 *", ARGUMENT);
        meets(0, "1.0.0", true);
        told(4, 0);
    }

    private static void promise13Best() {
        begin("promise 13");
        for (int pack : WRONG_PACKS) {
            best(pack, "x", INDEX);
            told(4, 0);
        }
        best(0, "x", ARGUMENT);
        told(4, 0);
        best(0, "*", -1);
        publish(0, "1.9.0", 0);
        publish(0, "1.10.0", 1);
        publish(0, "1.2.0", 2);
        publish(1, "3.0.0", 3);
        publish(0, "2.0.0-a", 4);
        best(0, "*", 1);
        best(0, "1.2.*", 2);
        best(0, "<1.10", 0);
        best(0, ">=2.0.0-a", 4);
        best(0, "3", -1);
        best(1, "*", 3);
        best(2, "*", -1);
        yank(1, true, false);
        pin(1, -1);
        best(0, "*", 0);
        yank(0, true, false);
        yank(2, true, false);
        best(0, "*", -1);
        yank(1, false, true);
        best(0, "*", 1);
    }

    private static void promise14Compare() {
        String[] rising = {"0.0.0-0", "0.0.0", "0.0.1", "0.1.0-z", "0.1.0", "0.9.9", "0.10.0", "1.0.0-0", "1.0.0-2",
            "1.0.0-2.0", "1.0.0-2.a", "1.0.0-11", "1.0.0-999999999", "1.0.0--", "1.0.0-1-", "1.0.0-10a", "1.0.0-2a",
            "1.0.0-A", "1.0.0-B", "1.0.0-a", "1.0.0-a.1", "1.0.0-a.1.1", "1.0.0-a.a", "1.0.0-a-", "1.0.0-ab", "1.0.0-b",
            "1.0.0", "2.0.0-a", "2.0.0", "10.0.0", "999999999.0.0"};
        for (int v = 0; v < rising.length; v++) {
            stock(14, rising);
            for (int w = 0; w < rising.length; w++) {
                int first = v;
                int other = w;
                due("compare of " + rising[v] + " and " + rising[w], Integer.compare(v, w),
                        () -> x.compare(first, other));
            }
        }
        publish(4, "1.0.0-a+zzz", rising.length);
        due("compare, but for +", 0, () -> x.compare(19, rising.length));
        compare(-1, 0, INDEX);
        compare(0, -1, INDEX);
        compare(0, 99, INDEX);
        compare(99, 0, INDEX);
    }

    private static void promise15Needs() {
        begin("promise 15");
        needs(0, 0, INDEX);
        publish(4, "1.0.0;7 *;0 1;4 >0;3 2;1 *", 0);
        publish(4, "1.0.1", 1);
        publish(4, "1.0.2;5 *", 2);
        int[] packs = {7, 0, 4, 3, 1, -1, -1};
        for (int k = 0; k < packs.length; k++) {
            int each = k;
            due("needs(0, " + k + ")", packs[k], () -> x.needs(0, each));
        }
        needs(0, -1, -1);
        needs(0, Integer.MIN_VALUE, -1);
        needs(0, Integer.MAX_VALUE, -1);
        needs(1, 0, -1);
        needs(2, 0, 5);
        needs(2, 1, -1);
        needs(3, 0, INDEX);
        needs(-1, 0, INDEX);
    }

    private static void promise16Told() {
        begin("promise 16");
        publish(0, "1.0.0", 0);
        publish(0, "2.0.0", 1);
        publish(1, "1.0.0", 2);
        publish(2, "1.0.0", 3);
        publish(2, "2.0.0", 4);
        yank(0, true, false);
        yank(2, true, false);
        yank(3, true, false);
        yank(3, true, true);
        yank(4, true, false);
        want(5, "*", DONE);
        want(6, "*", DONE);
        want(6, "1", DONE);
        pin(0, -1);
        pin(1, 0);
        pin(2, -1);
        pin(3, -1);
        feed("123456");
        told(0, 5);
        told(1, 4);
        told(2, 2);
        told(3, 3);
        told(4, 6);
        told(5, -1);
        told(-1, -1);
        told(Integer.MAX_VALUE, -1);
        told(Integer.MIN_VALUE, -1);
        told(4, 6);
    }

    private static void promise17Write() {
        begin("promise 17");
        file("");
        publish(7, "1.0.0-a.1+b.02;0 *", 0);
        publish(0, "10.20.30", 1);
        want(7, "1.0.0-a", DONE);
        file("");
        solve(2, 1, -1, -1, -1, -1, -1, -1, 0);
        due("fileByte(0) before write()", INDEX, () -> x.fileByte(0));
        file("0 10.20.30\n7 1.0.0-a.1+b.02\n");
        yank(0, true, false);
        yank(1, true, false);
        noSolution(1, -1, -1, -1, -1, -1, -1, 0);
        file("0 10.20.30\n7 1.0.0-a.1+b.02\n");
        drop(7, true);
        file("0 10.20.30\n7 1.0.0-a.1+b.02\n");
        solve(0);
        due("fileByte(0) of the old file", 48, () -> x.fileByte(0));
        file("");
        // The longest file.
        begin("promise 17");
        StringBuilder all = new StringBuilder();
        for (int pack = 0; pack < 8; pack++) {
            String version = "999999999.999999999.999" + pack;
            publish(pack, version, pack);
            want(pack, "*", DONE);
            all.append(pack).append(' ').append(version).append('\n');
        }
        solve(8, 0, 1, 2, 3, 4, 5, 6, 7);
        file(all.toString());
    }

    private static void promise18FileByte() {
        begin("promise 18");
        publish(3, "1.2.3-a+B", 0);
        want(3, "1.2.3-a", DONE);
        solve(1, -1, -1, -1, 0);
        due("write()", 12, () -> x.write());
        int[] bytes = {51, 32, 49, 46, 50, 46, 51, 45, 97, 43, 66, 10};
        for (int i = 0; i < bytes.length; i++) {
            int each = i;
            due("fileByte(" + i + ")", bytes[i], () -> x.fileByte(each));
        }
        fileByte(12, INDEX);
        fileByte(-1, INDEX);
        fileByte(Integer.MAX_VALUE, INDEX);
        fileByte(Integer.MIN_VALUE, INDEX);
    }
}
