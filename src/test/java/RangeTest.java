/** The document's sentences on PRECEDENCE and on what MEETS a requirement: each with a test of its own. */
public final class RangeTest extends Calls {
    private static final boolean IN = true;
    private static final boolean OUT = false;
    /** The largest numbers that the 24 bytes of a version leave room for. */
    private static final String TOP = "999999999.999999999.9999";

    public static void main(String[] args) {
        byTheFirstTheSecondTheThirdNumber();
        withWordsIsBelowWithout();
        digitsAloneByTheirNumber();
        digitsAloneBelowAnyOther();
        othersByTheirBytes();
        aBeginningIsBelow();
        whoHasNoMoreWordsIsBelow();
        whatIsBehindPlusDoesNotCount();
        meetsEachComparator();
        wordsMustStandInAComparator();
        star();
        oneNumberFromItOn();
        twoNumbersFromThemOn();
        tildeOfThree();
        equalOfThree();
        caretOfThree();
        caretOfThreeWithZeroFirst();
        caretOfThreeWithTwoZeros();
        caretOfTwo();
        notBelowOneOrTwo();
        belowOneOrTwo();
        aboveOneOrTwo();
        notAboveOneOrTwo();
        signsOfThree();
        end();
    }

    /** Each of these is below all that stand behind it, whichever packages they are of. */
    private static void rising(String... versions) {
        for (int low = 0; low < versions.length; low++) {
            for (int high = low + 1; high < versions.length; high++) {
                fresh();
                publish(3, versions[low], 0);
                publish(5, versions[high], 1);
                compare(0, 1, -1);
                compare(1, 0, 1);
                compare(0, 0, 0);
                compare(1, 1, 0);
                publish(5, versions[low], 2);
            }
        }
    }

    private static void same(String version, String other) {
        fresh();
        publish(3, version, 0);
        publish(5, other, 1);
        compare(0, 1, 0);
        compare(1, 0, 0);
        publish(3, other, STATE);
        publish(5, version, STATE);
    }

    private static void byTheFirstTheSecondTheThirdNumber() {
        begin("PRECEDENCE of versions: by the first, the second, the third number");
        rising("0.0.0", "0.0.1", "0.0.9", "0.0.10", "0.0.999999999", "0.1.0", "0.9.0", "0.10.0", "0.999999999.0",
            "0.999999999.999999999", "1.0.0", "1.0.1", "1.1.0", "2.0.0", "9.9.9", "10.0.0", "99999999.0.0", "100000000.0.0",
            "999999998.9.9", "999999999.0.0", TOP);
        same("0.0.0", "0.0.0");
        same(TOP, TOP);
    }

    private static void withWordsIsBelowWithout() {
        begin("then one with words behind - is below one without");
        rising("0.0.0-0", "0.0.0", "0.0.1-zzzzzzzz", "0.0.1", "0.1.0-a", "0.1.0", "1.0.0-999999999", "1.0.0", "1.0.1--",
            "1.0.1");
    }

    private static void digitsAloneByTheirNumber() {
        begin("by these words one by one: two of digits alone by their number");
        rising("1.0.0-0", "1.0.0-1", "1.0.0-2", "1.0.0-9", "1.0.0-10", "1.0.0-11", "1.0.0-99", "1.0.0-100",
            "1.0.0-99999999", "1.0.0-100000000", "1.0.0-999999998", "1.0.0-999999999");
        rising("1.0.0-a.2.9", "1.0.0-a.10.1", "1.0.0-a.10.2", "1.0.0-b.1.1");
    }

    private static void digitsAloneBelowAnyOther() {
        begin("such a one below any other");
        rising("1.0.0-0", "1.0.0-999999999", "1.0.0--");
        rising("1.0.0-999999999", "1.0.0-0-");
        rising("1.0.0-999999999", "1.0.0-0a");
        rising("1.0.0-2", "1.0.0-1a");
        rising("1.0.0-9.z", "1.0.0-A");
        rising("1.0.0-a.999999999.z", "1.0.0-a.-", "1.0.0-a.0A", "1.0.0-a.A");
    }

    private static void othersByTheirBytes() {
        begin("others by their bytes");
        rising("1.0.0--", "1.0.0-0a", "1.0.0-9a", "1.0.0-A", "1.0.0-Z", "1.0.0-a", "1.0.0-z");
        // By bytes, not by numbers inside a word; and by the first byte that differs.
        rising("1.0.0-a-", "1.0.0-a10", "1.0.0-a2", "1.0.0-aA", "1.0.0-aa", "1.0.0-b");
        rising("1.0.0-10a", "1.0.0-2a");
        rising("1.0.0-aaaaaaaaaaaaaaaaaa", "1.0.0-aaaaaaaaaaaaaaaaab");
    }

    private static void aBeginningIsBelow() {
        begin("(a beginning of another one is below it)");
        rising("1.0.0-a", "1.0.0-aa", "1.0.0-aaa", "1.0.0-aaaa");
        rising("1.0.0--", "1.0.0---", "1.0.0-----");
        rising("1.0.0-0a", "1.0.0-0a0");
        // The word that is longer counts before the words behind the shorter one.
        rising("1.0.0-a.z", "1.0.0-a-", "1.0.0-a-.0");
        rising("1.0.0-a.z.z", "1.0.0-a0.0");
    }

    private static void whoHasNoMoreWordsIsBelow() {
        begin("who has no more of them is below");
        rising("1.0.0-a", "1.0.0-a.0", "1.0.0-a.0.0", "1.0.0-a.0.0.0", "1.0.0-a.0.0.a", "1.0.0-a.0.1", "1.0.0-a.1",
            "1.0.0-a.a", "1.0.0-b", "1.0.0-b.0");
        rising("1.0.0-0", "1.0.0-0.0", "1.0.0-0.0.0", "1.0.0-1");
        rising("1.0.0-999999999", "1.0.0-999999999.0");
    }

    private static void whatIsBehindPlusDoesNotCount() {
        begin("What is behind + does not count");
        same("1.0.0", "1.0.0+a");
        same("1.0.0+a", "1.0.0+b.c");
        same("1.0.0+a-b", "1.0.0");
        same("1.0.0-a+b", "1.0.0-a");
        same("1.0.0-a.1+001", "1.0.0-a.1+z");
        rising("1.0.0-a+z", "1.0.0-a.0", "1.0.0-b+a", "1.0.0+0", "1.0.1-0+z");
        begin("What is behind + does not count: it makes no words behind -");
        publish(0, "1.0.0+a-b", 0);
        meets(0, "*", true);
        meets(0, "=1.0.0", true);
        meets(0, "<=1.0.0-a", false);
        publish(0, "1.1.0-a+b", 1);
        meets(1, "*", false);
        meets(1, "=1.1.0-a", true);
    }

    private static void met(String version, String requirement, boolean due) {
        fresh();
        publish(2, version, 0);
        meets(0, requirement, due);
        best(2, requirement, due ? 0 : VersionSolver.NONE);
        // And so for the root, and for a version that requires it.
        want(2, requirement, DONE);
        solve(due ? 1 : STATE, -1, -1, due ? 0 : -1);
        drop(2, true);
        publish(1, "1.0.0;2 " + requirement, 1);
        want(1, "*", DONE);
        solve(due ? 2 : STATE, -1, due ? 1 : -1, due ? 0 : -1);
    }

    /**
     * Whether a version meets a comparator. For one with words, a second comparator names its three
     * numbers: what is behind -0 is the lowest of all words.
     */
    private static void edge(String comparator, String version, boolean due) {
        String counted = version.replaceAll("[+].*", "");
        int minus = counted.indexOf('-');
        met(version, minus < 0 ? comparator : comparator + ", >=" + counted.substring(0, minus) + "-0", due);
    }

    private static void edges(String[] comparators, boolean due, String... versions) {
        for (String comparator : comparators) {
            for (String version : versions) {
                edge(comparator, version, due);
            }
        }
    }

    private static String[] row(String... texts) {
        return texts;
    }

    private static void meetsEachComparator() {
        begin("A version MEETS a requirement, if it meets each comparator");
        String[] parts = {">=1", "<2", ">1.0.0", "<=1.5.0"};
        String[] failing = {"0.9.0", "2.0.0", "1.0.0", "1.5.1"};
        met("1.5.0", String.join(",", parts), true);
        for (String version : failing) {
            met(version, String.join(",", parts), false);
        }
        // One that fails is enough, wherever it stands.
        met("1.0.0", "2,1,1,1", false);
        met("1.0.0", "1,2,1,1", false);
        met("1.0.0", "1,1,2,1", false);
        met("1.0.0", "1,1,1,2", false);
        met("1.0.0", "1,1,1,1", true);
        met("1.0.0", "<1,>1", false);
    }

    private static void wordsMustStandInAComparator() {
        begin("if it has words behind -, the same three numbers with words behind - stand in one of them");
        // Met by precedence, but not named with words.
        for (String requirement : row("*", "1", "1.2", "1.*", "1.2.*", ">=1.2.0", "<1.2.3", "<=1.2.3", "<2", ">1.1", "~1.2.0",
            ">=1.2.2-a", ">=1.1.3-a", ">=0.2.3-a", "<1.2.4-a", "<1.3.3-a", "<2.2.3-a", "<=1.2.3, >=1.2.2-z")) {
            met("1.2.3-b", requirement, false);
        }
        // Named with words, which need not be the same ones, in whichever comparator.
        for (String requirement : row(">=1.2.3-a", "1.2.3-a", "~1.2.3-a", "<1.2.3-c", "<=1.2.3-b", "=1.2.3-b", ">1.2.3-a.z",
            "*,>=1.2.3-0", ">=1.2.3-0,*", "*,*,*,<1.2.3-z", "<1.2.3-z,*,*,*", "1.2,>1.2.3-a")) {
            met("1.2.3-b", requirement, true);
        }
        // Named, but not met.
        for (String requirement : row(">1.2.3-b", "<1.2.3-b", "=1.2.3-a", ">=1.2.3-c", "<=1.2.3-a", "1.2.3-c", "=1.2.3-b.0",
            "<=1.2.3-z,>=1.2.3")) {
            met("1.2.3-b", requirement, false);
        }
        // A version without words needs no such comparator.
        met("1.2.3", "*", true);
        met("1.2.3", ">=1.2.3-a", true);
        met("1.2.4", ">=1.2.3-a", true);
        met("1.2.3", "<=1.2.3-a", false);
    }

    private static void star() {
        begin("*: by all");
        edges(row("*"), IN, "0.0.0-0", "0.0.0", "1.2.3", "1.2.3-a", TOP, "999999999.0.0-0");
    }

    private static void oneNumberFromItOn() {
        begin("A.*, ~A, =A, ^A: from A.0.0 on, below (A + 1).0.0");
        String[] ofOne = row("1.*", "~1", "=1", "^1", "1");
        edges(ofOne, OUT, "0.0.0", "0.999999999.999999999", "1.0.0-0", "1.0.0-zzz", "2.0.0", "2.0.1-0", "11.0.0", "10.0.0");
        edges(ofOne, IN, "1.0.0", "1.0.1-0", "1.0.1", "1.999999999.999999999", "2.0.0-0", "2.0.0-zzz");
        String[] ofZero = row("0.*", "~0", "=0", "^0", "0");
        edges(ofZero, OUT, "0.0.0-0", "0.0.0-z", "1.0.0", "1.0.1-a");
        edges(ofZero, IN, "0.0.0", "0.0.1-0", "0.999999999.999999999", "1.0.0-0", "1.0.0-z");
        String[] ofMost = row("999999999.*", "~999999999", "=999999999", "^999999999", "999999999");
        edges(ofMost, OUT, "0.0.0", "999999998.999999999.9999", "999999999.0.0-z");
        edges(ofMost, IN, "999999999.0.0", TOP);
        // The 1 that is added carries into no other number.
        edges(row("9.*", "~9", "=9", "^9", "9"), IN, "9.0.0", "9.9.9", "10.0.0-0");
        edges(row("9.*", "~9", "=9", "^9", "9"), OUT, "8.9.9", "10.0.0");
    }

    private static void twoNumbersFromThemOn() {
        begin("A.B.*, ~A.B, =A.B: from A.B.0 on, below A.(B + 1).0");
        String[] ofTwo = row("1.2.*", "~1.2", "=1.2");
        edges(ofTwo, OUT, "0.2.0", "1.1.999999999", "1.2.0-z", "1.3.0", "1.3.1-0", "2.2.0", "1.20.0");
        edges(ofTwo, IN, "1.2.0", "1.2.1-0", "1.2.999999999", "1.3.0-0", "1.3.0-z");
        String[] ofZeros = row("0.0.*", "~0.0", "=0.0");
        edges(ofZeros, OUT, "0.0.0-z", "0.1.0", "1.0.0");
        edges(ofZeros, IN, "0.0.0", "0.0.999999999", "0.1.0-z");
        String[] ofMost = row("1.999999999.*", "~1.999999999", "=1.999999999");
        edges(ofMost, OUT, "1.999999998.999999999", "1.999999999.0-z", "2.0.0", "2.0.0-0");
        edges(ofMost, IN, "1.999999999.0", "1.999999999.999999999");
    }

    private static void tildeOfThree() {
        begin("~A.B.C: from A.B.C on, below A.(B + 1).0");
        edges(row("~1.2.3"), OUT, "0.2.3", "1.2.2", "1.2.3-z", "1.3.0", "1.3.1-0", "2.2.3");
        edges(row("~1.2.3"), IN, "1.2.3", "1.2.4-0", "1.2.999999999", "1.3.0-0", "1.3.0-z");
        edges(row("~0.0.0"), OUT, "0.0.0-z", "0.1.0");
        edges(row("~0.0.0"), IN, "0.0.0", "0.0.1", "0.1.0-z");
        edges(row("~0.0.3"), OUT, "0.0.2", "0.1.0");
        edges(row("~0.0.3"), IN, "0.0.3", "0.0.4", "0.0.999999999");
        edges(row("~0.999999999.999999999"), OUT, "0.999999999.999999998", "1.0.0", "1.0.0-0");
        edges(row("~0.999999999.999999999"), IN, "0.999999999.999999999");
        begin("~A.B.C: (with words, C is with them)");
        edges(row("~1.2.3-b"), OUT, "1.2.2", "1.2.3-a", "1.2.3-a.z", "1.3.0", "1.3.1-0");
        edges(row("~1.2.3-b"), IN, "1.2.3-b", "1.2.3-b.0", "1.2.3-ba", "1.2.3", "1.2.4-0", "1.2.999999999", "1.3.0-0");
    }

    private static void equalOfThree() {
        begin("=A.B.C: the same precedence");
        edges(row("=1.2.3"), OUT, "1.2.2", "1.2.3-z", "1.2.4", "1.2.4-0", "0.2.3", "1.1.3", "1.3.3", "2.2.3", "1.2.30");
        edges(row("=1.2.3"), IN, "1.2.3", "1.2.3+a", "1.2.3+a-b");
        edges(row("=0.0.0"), IN, "0.0.0");
        edges(row("=0.0.0"), OUT, "0.0.0-0", "0.0.1", "0.1.0", "1.0.0");
        edges(row("=" + TOP), IN, TOP);
        edges(row("=1.2.3-b.1"), OUT, "1.2.3-b", "1.2.3-b.0", "1.2.3-b.1.0", "1.2.3-b.2", "1.2.3-b.a", "1.2.3", "1.2.3-B.1");
        edges(row("=1.2.3-b.1"), IN, "1.2.3-b.1", "1.2.3-b.1+a");
    }

    private static void caretOfThree() {
        begin("^A.B.C: from it on, below (A + 1).0.0");
        String[] ofThree = row("^1.2.3", "1.2.3");
        edges(ofThree, OUT, "0.2.3", "1.1.9", "1.2.2", "1.2.3-z", "2.0.0", "2.0.1-0", "2.2.3");
        edges(ofThree, IN, "1.2.3", "1.2.4-0", "1.2.4", "1.3.0", "1.999999999.999999999", "2.0.0-0", "2.0.0-z");
        edges(row("^1.0.0", "1.0.0"), OUT, "0.9.9", "1.0.0-z", "2.0.0");
        edges(row("^1.0.0", "1.0.0"), IN, "1.0.0", "1.0.1", "1.1.0", "2.0.0-0");
        edges(row("^1.0.3"), OUT, "1.0.2", "2.0.0");
        edges(row("^1.0.3"), IN, "1.0.3", "1.0.4", "1.1.0");
        edges(row("^999999999.1.2"), OUT, "999999999.1.1", "999999998.9.9", "0.0.0");
        edges(row("^999999999.1.2"), IN, "999999999.1.2", TOP);
        begin("^A.B.C: (with words, C is with them)");
        edges(row("^1.2.3-b", "1.2.3-b"), OUT, "1.2.2", "1.2.3-a", "2.0.0", "2.0.1-0");
        edges(row("^1.2.3-b", "1.2.3-b"), IN, "1.2.3-b", "1.2.3-b.0", "1.2.3", "1.2.4", "1.3.0-0", "2.0.0-0");
    }

    private static void caretOfThreeWithZeroFirst() {
        begin("but if A is 0, below 0.(B + 1).0");
        String[] ofThree = row("^0.2.3", "0.2.3");
        edges(ofThree, OUT, "0.0.3", "0.1.9", "0.2.2", "0.2.3-z", "0.3.0", "0.3.1-0", "0.9.9", "1.0.0", "1.2.3");
        edges(ofThree, IN, "0.2.3", "0.2.4", "0.2.999999999", "0.3.0-0", "0.3.0-z");
        edges(row("^0.2.0"), OUT, "0.1.9", "0.2.0-z", "0.3.0");
        edges(row("^0.2.0"), IN, "0.2.0", "0.2.1", "0.3.0-0");
        edges(row("^0.999999999.2"), OUT, "0.999999999.1", "1.0.0", "1.0.0-0");
        edges(row("^0.999999999.2"), IN, "0.999999999.2", "0.999999999.999999999");
        edges(row("^0.2.3-b", "0.2.3-b"), OUT, "0.2.2", "0.2.3-a", "0.3.0", "1.0.0");
        edges(row("^0.2.3-b", "0.2.3-b"), IN, "0.2.3-b", "0.2.3", "0.2.9", "0.3.0-z");
    }

    private static void caretOfThreeWithTwoZeros() {
        begin("and if B is 0, too, below 0.0.(C + 1)");
        String[] ofThree = row("^0.0.3", "0.0.3");
        edges(ofThree, OUT, "0.0.2", "0.0.3-z", "0.0.4", "0.0.5-0", "0.1.0", "0.1.3", "1.0.0", "1.0.3");
        edges(ofThree, IN, "0.0.3", "0.0.3+a", "0.0.4-0", "0.0.4-z");
        edges(row("^0.0.0", "0.0.0"), OUT, "0.0.0-z", "0.0.1", "0.0.2-0", "0.1.0", "1.0.0");
        edges(row("^0.0.0", "0.0.0"), IN, "0.0.0", "0.0.1-0");
        edges(row("^0.0.999999999"), OUT, "0.0.999999998", "0.1.0", "0.1.0-0");
        edges(row("^0.0.999999999"), IN, "0.0.999999999");
        edges(row("^0.0.3-b", "0.0.3-b"), OUT, "0.0.2", "0.0.3-a", "0.0.4", "0.0.5-0", "0.1.0");
        edges(row("^0.0.3-b", "0.0.3-b"), IN, "0.0.3-b", "0.0.3-c", "0.0.3", "0.0.4-0");
    }

    private static void caretOfTwo() {
        begin("^A.B: from A.B.0 on, below (A + 1).0.0");
        edges(row("^1.2", "1.2"), OUT, "0.2.0", "1.1.9", "1.2.0-z", "2.0.0", "2.0.1-0", "2.2.0");
        edges(row("^1.2", "1.2"), IN, "1.2.0", "1.2.1-0", "1.3.0", "1.999999999.999999999", "2.0.0-0");
        edges(row("^1.0", "1.0"), OUT, "0.9.9", "1.0.0-z", "2.0.0");
        edges(row("^1.0", "1.0"), IN, "1.0.0", "1.1.0", "2.0.0-z");
        edges(row("^999999999.2"), OUT, "999999999.1.9", "0.0.0");
        edges(row("^999999999.2"), IN, "999999999.2.0", TOP);
        begin("^A.B: but if A is 0, below 0.(B + 1).0");
        edges(row("^0.2", "0.2"), OUT, "0.1.9", "0.2.0-z", "0.3.0", "0.3.1-0", "1.0.0", "1.2.0");
        edges(row("^0.2", "0.2"), IN, "0.2.0", "0.2.999999999", "0.3.0-0");
        edges(row("^0.0", "0.0"), OUT, "0.0.0-z", "0.1.0", "0.1.1-0", "1.0.0");
        edges(row("^0.0", "0.0"), IN, "0.0.0", "0.0.1", "0.0.999999999", "0.1.0-0");
        edges(row("^0.999999999"), OUT, "0.999999998.9", "1.0.0", "1.0.0-0");
        edges(row("^0.999999999"), IN, "0.999999999.0", "0.999999999.999999999");
    }

    private static void notBelowOneOrTwo() {
        begin(">=A, >=A.B: from A.0.0, A.B.0 on");
        edges(row(">=1"), OUT, "0.0.0", "0.999999999.999999999", "1.0.0-z");
        edges(row(">=1"), IN, "1.0.0", "1.0.1-0", "1.9.9", "2.0.0-0", TOP);
        edges(row(">=1.2"), OUT, "0.9.9", "1.1.999999999", "1.2.0-z");
        edges(row(">=1.2"), IN, "1.2.0", "1.2.1-0", "1.3.0", "2.0.0", TOP);
        edges(row(">=0", ">=0.0"), OUT, "0.0.0-0", "0.0.0-z");
        edges(row(">=0", ">=0.0"), IN, "0.0.0", "0.0.1-0", TOP);
        edges(row(">=999999999", ">=999999999.0"), OUT, "999999998.9.9", "999999999.0.0-z");
        edges(row(">=999999999", ">=999999999.0"), IN, "999999999.0.0", TOP);
    }

    private static void belowOneOrTwo() {
        begin("<A, <A.B: below these");
        edges(row("<1"), IN, "0.0.0", "0.0.0-0", "0.999999999.999999999", "1.0.0-0", "1.0.0-z");
        edges(row("<1"), OUT, "1.0.0", "1.0.1-0", "2.0.0", TOP);
        edges(row("<1.2"), IN, "0.9.9", "1.1.999999999", "1.2.0-0", "1.2.0-z");
        edges(row("<1.2"), OUT, "1.2.0", "1.2.1-0", "1.3.0", "2.0.0");
        edges(row("<0", "<0.0"), IN, "0.0.0-0", "0.0.0-z");
        edges(row("<0", "<0.0"), OUT, "0.0.0", "0.0.1-0", "1.0.0");
    }

    private static void aboveOneOrTwo() {
        begin(">A, >A.B: from (A + 1).0.0, A.(B + 1).0 on");
        edges(row(">1"), OUT, "0.0.0", "1.0.0", "1.0.1", "1.999999999.999999999", "2.0.0-0", "2.0.0-z");
        edges(row(">1"), IN, "2.0.0", "2.0.1-0", "3.0.0", TOP);
        edges(row(">1.2"), OUT, "0.9.9", "1.2.0", "1.2.999999999", "1.3.0-0", "1.3.0-z");
        edges(row(">1.2"), IN, "1.3.0", "1.3.1-0", "2.0.0", TOP);
        edges(row(">0"), OUT, "0.0.0", "0.9.9", "1.0.0-z");
        edges(row(">0"), IN, "1.0.0");
        edges(row(">0.0"), OUT, "0.0.0", "0.0.999999999", "0.1.0-z");
        edges(row(">0.0"), IN, "0.1.0", "1.0.0");
        edges(row(">999999999"), OUT, "0.0.0", "999999999.0.0", TOP);
        edges(row(">1.999999999"), OUT, "1.999999999.0", "1.999999999.999999999");
        edges(row(">1.999999999"), IN, "2.0.0", "2.0.0-0");
        edges(row(">999999999.999999999"), OUT, "0.0.0", TOP);
    }

    private static void notAboveOneOrTwo() {
        begin("<=A, <=A.B: below these");
        edges(row("<=1"), IN, "0.0.0-0", "0.0.0", "1.0.0", "1.999999999.999999999", "2.0.0-0", "2.0.0-z");
        edges(row("<=1"), OUT, "2.0.0", "2.0.1-0", "3.0.0", TOP);
        edges(row("<=1.2"), IN, "0.9.9", "1.2.0", "1.2.999999999", "1.3.0-0", "1.3.0-z");
        edges(row("<=1.2"), OUT, "1.3.0", "1.3.1-0", "2.0.0");
        edges(row("<=0"), IN, "0.0.0", "0.9.9", "1.0.0-z");
        edges(row("<=0"), OUT, "1.0.0", "1.0.1-0");
        edges(row("<=0.0"), IN, "0.0.0", "0.0.999999999", "0.1.0-z");
        edges(row("<=0.0"), OUT, "0.1.0", "1.0.0");
        edges(row("<=999999999", "<=999999999.999999999"), IN, "0.0.0", "999999999.0.0", TOP);
        edges(row("<=1.999999999"), IN, "1.999999999.999999999");
        edges(row("<=1.999999999"), OUT, "2.0.0", "2.0.0-0");
    }

    private static void signsOfThree() {
        begin("With A.B.C: above, not below, below, not above it");
        String[] lower = {"0.0.0", "1.1.9", "1.2.2", "1.2.3-0", "1.2.3-z"};
        String[] higher = {"1.2.4-0", "1.2.4", "1.3.0", "2.0.0", TOP};
        sided("1.2.3", lower, "1.2.3", higher);
        sided("1.2.3", lower, "1.2.3+a", higher);
        sided("0.0.0", row("0.0.0-0", "0.0.0-z"), "0.0.0", row("0.0.1-0", "0.0.1", TOP));
        sided(TOP, row("0.0.0", "999999999.999999999.0"), TOP, row());
        begin("With A.B.C: (with words, C is with them)");
        sided("1.2.3-b", row("1.2.2", "1.2.3-0", "1.2.3-a.z", "1.2.3-B"), "1.2.3-b", row("1.2.3-b.0", "1.2.3-b-", "1.2.3", "1.2.4"));
        sided("1.2.3-2", row("1.2.2", "1.2.3-1", "1.2.3-0.z"), "1.2.3-2", row("1.2.3-2.0", "1.2.3-10", "1.2.3-1a", "1.2.3"));
    }

    private static void sided(String bound, String[] lower, String itself, String[] higher) {
        edges(row(">" + bound, ">=" + bound), OUT, lower);
        edges(row(">" + bound, ">=" + bound), IN, higher);
        edges(row("<" + bound, "<=" + bound), IN, lower);
        edges(row("<" + bound, "<=" + bound), OUT, higher);
        edges(row(">" + bound, "<" + bound), OUT, itself);
        edges(row(">=" + bound, "<=" + bound), IN, itself);
    }
}
