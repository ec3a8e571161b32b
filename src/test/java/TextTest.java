/** The document's sentences on THE TEXT and on what may stand in it: each with a test of its own. */
public final class TextTest extends Calls {
    private static final String ZEROS = "0000000000";
    private static final String LETTERS = "aaaaaaaaaaaaaaaaaaaaaaaaa";

    public static void main(String[] args) {
        theTextHasAtMost160Bytes();
        whoReadsTheTextUsesItUp();
        whoReadsTheTextUsesItUpWhenItThrows();
        whoDoesNotReadTheTextLeavesIt();
        numbers();
        numbersInWords();
        words();
        wordsOfNoByte();
        versionHasThreeNumbers();
        versionPerhapsHasWordsBehindMinus();
        wordOfDigitsAloneMustBeANumber();
        versionPerhapsHasWordsBehindPlus();
        versionHasAtMost24Bytes();
        versionInAComparatorHasAtMost24Bytes();
        comparatorWithStar();
        comparatorWithSign();
        withoutASignItIsCaret();
        comparatorOfNumbersOrAVersionWithoutPlus();
        requirementHasOneToFourComparators();
        blanksMayStandBeforeAndBehindEach();
        publicationHasUpToFiveRequirements();
        publicationHasTheDigitOfAPackageAndABlank();
        noTwoOfTheSamePackage();
        nothingElseMayStandBeforeBetweenAndBehind();
        end();
    }

    /** Whether a text is a PUBLICATION. */
    private static void publication(String text, boolean right) {
        fresh();
        publish(0, text, right ? 0 : ARGUMENT);
        told(0, right ? 1 : 0);
    }

    /** Whether a text is a REQUIREMENT, for each call that reads one, and in a publication. */
    private static void requirement(String text, boolean right) {
        fresh();
        want(0, text, right ? DONE : ARGUMENT);
        told(2, right ? 1 : 0);
        best(0, text, right ? VersionSolver.NONE : ARGUMENT);
        publish(0, "5.6.7-q", 0);
        // No requirement in these tests names 5.6.7 with words, so that it meets none.
        meets(0, text, right ? false : ARGUMENT);
        if (text.length() <= 160 - 8) {
            publish(1, "1.0.0;1 " + text, right ? 1 : ARGUMENT);
        }
    }

    private static boolean isWordByte(int c) {
        return c >= 'a' && c <= 'z' || c >= 'A' && c <= 'Z' || c >= '0' && c <= '9' || c == '-';
    }

    private static void feedDue(long bytes, int n, Object want) {
        due("feed(" + bytes + ", " + n + ")", want, () -> x.feed(bytes, n));
    }

    private static void theTextHasAtMost160Bytes() {
        begin("THE TEXT is what feed() brought, at most 160 bytes");
        told(4, 0);
        publish(0, "3.0.0", 0);
        // The last one of 160 bytes counts.
        meets(0, " ".repeat(154) + "=3.0.0", true);
        meets(0, " ".repeat(154) + "=3.0.1", false);
        meets(0, " ".repeat(155) + "=3.0.", ARGUMENT);
        publish(1, "1.0.0;1 " + " ".repeat(146) + "=1.0.0", 1);
        want(1, "*", DONE);
        solve(1, -1, 1);
        for (int n = 1; n <= 8; n++) {
            fresh();
            feed("*" + " ".repeat(159 - n));
            told(4, 160 - n);
            for (int more = n + 1; more <= 8; more++) {
                feedDue(0x2020202020202020L, more, STATE);
            }
            told(4, 160 - n);
            feedDue(0x2020202020202020L, n, 160);
            feedDue(0x2020202020202020L, 1, STATE);
            feedDue(0x2020202020202020L, 8, STATE);
            told(4, 160);
            want(0, "", DONE);
            told(4, 0);
            told(2, 1);
        }
        // 160 times one byte.
        fresh();
        for (int i = 1; i <= 160; i++) {
            feedDue(i == 160 ? '*' : ' ', 1, i);
        }
        feedDue(' ', 1, STATE);
        want(3, "", DONE);
        // No text at all is none of what may be read.
        fresh();
        publish(0, "", ARGUMENT);
        want(0, "", ARGUMENT);
        best(0, "", ARGUMENT);
        publish(0, "1.0.0", 0);
        meets(0, "", ARGUMENT);
    }

    private static void whoReadsTheTextUsesItUp() {
        begin("each call that reads it uses it up");
        publish(0, "1.0.0", 0);
        told(4, 0);
        publish(0, "", ARGUMENT);
        want(0, "1", DONE);
        told(4, 0);
        want(0, "", ARGUMENT);
        meets(0, "1", true);
        told(4, 0);
        meets(0, "", ARGUMENT);
        best(0, "1", 0);
        told(4, 0);
        best(0, "", ARGUMENT);
        // What is fed next stands alone, and has nothing of a longer text before it.
        publish(0, "2.0.0;1 *;2 *;3 *;4 *;5 *", 1);
        feedDue('2', 1, 1);
        best(0, "", 1);
        feedDue('1', 1, 1);
        best(0, "", 0);
    }

    private static void usedUp() {
        told(4, 0);
        feedDue('*', 1, 1);
        want(0, "", DONE);
    }

    private static void whoReadsTheTextUsesItUpWhenItThrows() {
        begin("each call that reads it uses it up, also when it throws");
        for (int pack : new int[] {-1, 8}) {
            publish(pack, "1.0.0", INDEX);
            usedUp();
            want(pack, "1", INDEX);
            usedUp();
            best(pack, "1", INDEX);
            usedUp();
            meets(pack, "1", INDEX);
            usedUp();
        }
        publish(0, "1.0", ARGUMENT);
        usedUp();
        want(0, "1.", ARGUMENT);
        usedUp();
        best(0, "1.", ARGUMENT);
        usedUp();
        publish(0, "1.0.0", 0);
        meets(0, "1.", ARGUMENT);
        usedUp();
        publish(0, "1.0.0", STATE);
        usedUp();
        for (int v = 1; v < 40; v++) {
            publish(1, "1.0." + v, v);
        }
        publish(2, "1.0.0", UNSUPPORTED);
        usedUp();
    }

    private static void whoDoesNotReadTheTextLeavesIt() {
        begin("THE TEXT is used up by each call that reads it, and by no other");
        publish(0, "1.0.0", 0);
        feed("=1.");
        yank(0, true, false);
        yank(1, true, INDEX);
        drop(0, false);
        drop(8, INDEX);
        solve(0);
        chosen(8, INDEX);
        lock(0);
        pin(0, -1);
        pin(1, INDEX);
        unlock(1);
        compare(0, 0, 0);
        compare(0, 1, INDEX);
        needs(0, 0, -1);
        needs(1, 0, INDEX);
        told(5, -1);
        due("write()", 0, () -> x.write());
        fileByte(0, INDEX);
        feedDue(0, 0, ARGUMENT);
        feedDue(0, 9, ARGUMENT);
        told(4, 3);
        meets(0, "0.0", true);
        want(1, "*", DONE);
        feed("=1.");
        noSolution();
        told(4, 3);
        meets(0, "0.0", true);
    }

    private static void numbers() {
        begin("NUMBER: 0, or 1 to 9 digits of which the first is not 0");
        String[] right = {"0", "1", "9", "10", "90", "12345678", "100000000", "123456789", "999999999"};
        // 4294967297 is 1 in 32 bits, and 18446744073709551616 is 0 in 64.
        String[] wrong = {"", "00", "01", "09", "000000001", "0000000001", ZEROS, "1000000000", "1234567890",
            "2147483648", "4294967296", "4294967297", "9999999999", "18446744073709551616", "-1", "+1", "a", "1a", "a1",
            "1e1", "0x1", "1 1", "1_0", "\u00b2", "\u0000", "1\u0000"};
        for (String number : right) {
            everyNumber(number, true);
        }
        for (String number : wrong) {
            everyNumber(number, false);
        }
        fresh();
        publish(0, "999999998.0.0", 0);
        publish(0, "999999999.0.0", 1);
        publish(0, "99999999.0.0", 2);
        compare(0, 1, -1);
        compare(2, 0, -1);
    }

    private static void everyNumber(String number, boolean right) {
        publication(number + ".2.3", right);
        publication("1." + number + ".3", right);
        publication("1.2." + number, right);
        String[] shapes = {"#.*", "=#", "~#.2", ">#.2.3", "1.#.*", ">=1.#", "<1.#.3", "<=1.2.#"};
        for (String shape : shapes) {
            requirement(shape.replace("#", number), right);
        }
    }

    private static void numbersInWords() {
        begin("NUMBER: behind -, too");
        String[] right = {"0", "1", "10", "123456789", "999999999"};
        String[] wrong = {"00", "01", "000000001", ZEROS, "1000000000", "1234567890", "4294967297"};
        for (String number : right) {
            publication("1.2.3-" + number, true);
            requirement("1.2.3-" + number, true);
        }
        for (String number : wrong) {
            publication("1.2.3-" + number, false);
            requirement("1.2.3-" + number, false);
        }
    }

    private static void words() {
        begin("WORD: one or more letters, digits and -");
        for (int c = 0; c < 256; c++) {
            String one = String.valueOf((char) c);
            boolean inWord = isWordByte(c);
            publication("1.2.3-" + one, inWord);
            publication("1.2.3+" + one, inWord);
            publication("1.2.3-a" + one + "a", inWord || c == '.' || c == '+');
            publication("1.2.3+a" + one + "a", inWord || c == '.');
            requirement("1.2.3-" + one, inWord);
            requirement("1.2.3-a" + one + "a", inWord || c == '.');
        }
        for (int length = 1; length <= 18; length++) {
            publication("1.2.3-" + LETTERS.substring(0, length), true);
            publication("1.2.3+" + LETTERS.substring(0, length), true);
        }
    }

    private static void wordsOfNoByte() {
        begin("WORD: one or more");
        for (String behind : new String[] {"-", "-.", "-.a", "-a.", "-a..a", "-a.-.", "+", "+.", "+.a", "+a.", "+a..a", "-+",
            "-+a", "-a+", "-a.+a", "-a+.a", "-a+a."}) {
            publication("1.2.3" + behind, false);
            requirement("1.2.3" + behind, false);
        }
    }

    private static void versionHasThreeNumbers() {
        begin("VERSION: NUMBER . NUMBER . NUMBER");
        publication("1.2.3", true);
        publication("0.0.0", true);
        for (String text : new String[] {"", ".", "..", "1", "1.", "1.2", "1.2.", "1..3", ".2.3", "1.2.3.", "1.2.3.4", "1,2,3",
            "1.2 3", "1 2 3", "1.2-a", "1-a", "1.2+a", "1.2.-a", "1.2.+a", "1.2.*", "1.*", "*", "v1.2.3", "^1.2.3", "=1.2.3"}) {
            publication(text, false);
        }
    }

    private static void versionPerhapsHasWordsBehindMinus() {
        begin("then perhaps - and words with points between");
        for (String behind : new String[] {"", "-a", "-a.b", "-a.b.c.d.e.f.g.h.i", "--", "---", "--.-", "-0.0", "-a-b", "-a-",
            "--a", "-A.Z.a.z.0.9"}) {
            publication("1.2.3" + behind, true);
            requirement("1.2.3" + behind, true);
        }
        for (String behind : new String[] {"a", "_a", ".a", "-a,b", "-a b", "-a:b", "-a/b", "-a~", "-a*", "-*", "-a^"}) {
            publication("1.2.3" + behind, false);
        }
        for (String behind : new String[] {"a", "_a", ".a", "-a b", "-a:b", "-a/b", "-a~", "-a*", "-*", "-a^"}) {
            requirement("1.2.3" + behind, false);
        }
    }

    private static void wordOfDigitsAloneMustBeANumber() {
        begin("(a word of digits alone must be a NUMBER)");
        for (String words : new String[] {"0", "999999999", "0a", "00a", "a00", "0-", "-0", "00-00", "1234567890a",
            "-1234567890", "a.0", "0.a", "1.2.3"}) {
            publication("1.2.3-" + words, true);
            requirement("1.2.3-" + words, true);
        }
        for (String words : new String[] {"00", "01", "1000000000", "a.00", "00.a", "a.01.b", "0.1.02", "a.1000000000"}) {
            publication("1.2.3-" + words, false);
            publication("1.2.3-" + words + "+a", false);
            requirement("1.2.3-" + words, false);
        }
    }

    private static void versionPerhapsHasWordsBehindPlus() {
        begin("then perhaps + and words with points between");
        for (String behind : new String[] {"+a", "+a.b", "-a+b", "-a.b+c.d", "+-", "+a-b", "+0", "+00", "+01.000", "-0+00",
            "+1234567890", "+0000000000", "+A.Z.a.z.0.9.-"}) {
            publication("1.2.3" + behind, true);
        }
        for (String behind : new String[] {"++", "+a+b", "+a+", "-a+b+c", "+a_b", "+a b", "+a,b", "+a*"}) {
            publication("1.2.3" + behind, false);
        }
        // It is no other version for what is behind +.
        fresh();
        publish(0, "1.2.3+a", 0);
        publish(0, "1.2.3+a-b", STATE);
        publish(0, "1.2.3-b+a", 1);
        publish(0, "1.2.3-b", STATE);
    }

    private static void versionHasAtMost24Bytes() {
        begin("VERSION: .. at most 24 bytes");
        String[] of24 = {"999999999.999999999.9999", "999999999.9999.999999999", "9999.999999999.999999999",
            "1.2.3-" + LETTERS.substring(0, 18), "1.2.3+" + LETTERS.substring(0, 18), "1.2.3-a.b.c.d.e.f.g.h.ij",
            "1.2.3-aaaaaaaa+aaaaaaaaa", "1.2.3-a+" + LETTERS.substring(0, 16), "1.2.3-aaaaaaaaaaaaaaaa+a",
            "1.2.3+a.b.c.d.e.f.g.h.ij"};
        for (String version : of24) {
            publication(version, true);
            publication(version + "0", false);
            publication(version + ";1 *", true);
            publication(version + "0;1 *", false);
        }
        for (int more = 25; more <= 150; more += 25) {
            publication("1.2.3-" + "a".repeat(more - 6), false);
            publication("1.2.3+" + "a".repeat(more - 6), false);
        }
        publication("1.2.3-" + "a".repeat(154), false);
        publication("999999999.999999999.999999999", false);
        // What it requires does not count.
        publication(of24[0] + ";1 1.2.3,1.2.3,1.2.3,1.2.3;2 1.2.3,1.2.3,1.2.3,1.2.3;3 1.2.3", true);
    }

    private static void versionInAComparatorHasAtMost24Bytes() {
        begin("VERSION: .. at most 24 bytes (without +, in a comparator)");
        String[] of24 = {"999999999.999999999.9999", "1.2.3-" + LETTERS.substring(0, 18), "1.2.3-a.b.c.d.e.f.g.h.ij"};
        for (String version : of24) {
            for (String sign : new String[] {"", "^", "~", "=", ">", ">=", "<", "<="}) {
                requirement(sign + version, true);
                requirement("  " + sign + version + "  ", true);
                requirement("*," + sign + version, true);
                requirement(sign + version + "0", false);
                requirement("*," + sign + version + "0", false);
            }
        }
        requirement("~999999999.999999999", true);
        requirement("999999999.999999999.*", true);
    }

    private static void comparatorWithStar() {
        begin("COMPARATOR: *, or NUMBER .*, or NUMBER . NUMBER .*");
        for (String text : new String[] {"*", "0.*", "1.*", "999999999.*", "0.0.*", "1.2.*", "999999999.999999999.*"}) {
            requirement(text, true);
        }
        for (String text : new String[] {"**", "*.*", "*.1", "*1", "1*", ".*", "1..*", "1.*.*", "1.*.3", "1.*3", "1.2.*.*",
            "1.2.*-a", "1.*-a", "*-a", "1.2.3.*", "1.2.3*", "1.2.3-*", "1. *", "1 .*", "x", "1.x", "1.X", "01.*", "1.02.*"}) {
            requirement(text, false);
        }
        for (String sign : new String[] {"^", "~", "=", ">", ">=", "<", "<="}) {
            requirement(sign + "*", false);
            requirement(sign + "1.*", false);
            requirement(sign + "1.2.*", false);
        }
    }

    private static void comparatorWithSign() {
        begin("perhaps a SIGN (^ ~ = > >= < <=");
        for (String sign : new String[] {"", "^", "~", "=", ">", ">=", "<", "<="}) {
            requirement(sign + "1", true);
            requirement(sign + "1.2", true);
            requirement(sign + "1.2.3", true);
            requirement(sign + "1.2.3-a", true);
            requirement(sign, false);
            requirement(sign + " 1", sign.isEmpty());
        }
        for (String sign : new String[] {"^^", "~~", "==", ">>", "<<", "=>", "=<", "<>", "><", ">==", "<==", "~>", "~=", "^=",
            "> =", "!", "!=", "-", "+", "v", "V", "v=", "\u00a0"}) {
            requirement(sign + "1", false);
            requirement(sign + "1.2.3", false);
        }
        for (int c = 0; c < 256; c++) {
            boolean before = "^~=<> 123456789".indexOf(c) >= 0;
            requirement((char) c + "1", before);
            boolean behind = "0123456789 ".indexOf(c) >= 0;
            requirement("1" + (char) c, behind);
            requirement("1.2.3" + (char) c, behind);
        }
    }

    private static void withoutASignItIsCaret() {
        begin("without one it is ^");
        String[] versions = {"1.0.0", "1.2.3", "1.9.9", "2.0.0", "0.2.2", "0.2.3", "0.3.0", "0.0.3", "0.0.4"};
        String[][] rows = {{"1", "111000000"}, {"1.2", "011000000"}, {"1.2.3", "011000000"}, {"0", "000011111"},
            {"0.2", "000011000"}, {"0.2.3", "000001000"}, {"0.0", "000000011"}, {"0.0.3", "000000010"}};
        for (String[] row : rows) {
            fresh();
            for (int v = 0; v < versions.length; v++) {
                publish(0, versions[v], v);
                meets(v, row[0], row[1].charAt(v) == '1');
                meets(v, "^" + row[0], row[1].charAt(v) == '1');
            }
        }
    }

    private static void comparatorOfNumbersOrAVersionWithoutPlus() {
        begin("and NUMBER, or NUMBER . NUMBER, or a VERSION without +");
        for (String text : new String[] {"1", "1.2", "1.2.3", "1.2.3-a", "1.2.3-a.b", "1.2.3--", "0", "0.0", "0.0.0"}) {
            requirement(text, true);
            requirement(text + "+a", false);
            requirement(">=" + text + "+a", false);
            requirement(text + "+", false);
            requirement(text + ".", false);
        }
        for (String text : new String[] {"1-a", "1.2-a", "1.-a", "1.2.-a", ".1", "1..2", "1.2..3", "1.2.3.4", "a", "-1"}) {
            requirement(text, false);
        }
    }

    private static void requirementHasOneToFourComparators() {
        begin("REQUIREMENT: one to four comparators with a comma between");
        requirement("", false);
        requirement("*", true);
        requirement("*,1", true);
        requirement("*,1,2.*", true);
        requirement("*,1,2.*,>=3.4.5-a", true);
        requirement("*,1,2.*,>=3.4.5-a,*", false);
        requirement("1,1,1,1,1", false);
        for (String text : new String[] {",", ",1", "1,", "1,,1", "1,1,", ",1,1", "1,1,1,1,", "1,1,1,,1", " , ", "1, ", " ,1",
            "1;1", "1 1", "1|1", "1.2.3,a"}) {
            requirement(text, false);
        }
        // The fourth one counts, too.
        fresh();
        publish(0, "1.0.0", 0);
        meets(0, "*,*,*,1", true);
        meets(0, "*,*,*,2", false);
    }

    private static void blanksMayStandBeforeAndBehindEach() {
        begin("blanks (32) may stand before and behind each");
        for (String text : new String[] {" 1", "1 ", " 1 ", "   1   ", "1 ,2", "1, 2", "1 , 2", "  1  ,  2  ,  3  ,  4  ", " * ",
            " 1.* ", "1.2.* ,<2", " 1.2.3-a ", " >=1 , <2 "}) {
            requirement(text, true);
        }
        for (String text : new String[] {" ", "        ", "> 1", ">= 1", "> =1", "1 .2", "1. 2", "1 2", "1.2 .3", "1.2. 3",
            "1.2.3 -a", "1.2.3- a", "1.2.3-a .b", "1.2.3-a. b", "1. *", "1 .*", "1 ,, 2", " , 1"}) {
            requirement(text, false);
        }
        for (int c = 0; c < 256; c++) {
            String one = String.valueOf((char) c);
            requirement("1," + one + "1", "^~=<> 123456789".indexOf(c) >= 0);
            requirement("1" + one + ",1", "0123456789 ".indexOf(c) >= 0);
            requirement(one + "*", c == ' ');
            requirement("*" + one, c == ' ');
        }
        requirement("*" + " ".repeat(151), true);
        requirement("*" + " ".repeat(159), true);
    }

    private static void publicationHasUpToFiveRequirements() {
        begin("PUBLICATION: a VERSION, then up to five times");
        StringBuilder text = new StringBuilder("1.2.3");
        for (int k = 0; k <= 8; k++) {
            publication(text.toString(), k <= 5);
            for (int at = 0; at <= 5 && k <= 5; at++) {
                needs(0, at, at < k ? 7 - at : VersionSolver.NONE);
            }
            text.append(';').append(7 - k).append(" *");
        }
        // The fifth one counts, too.
        fresh();
        publish(0, "1.0.0;1 *;2 *;3 *;4 *;5 <2", 0);
        for (int pack = 1; pack < 6; pack++) {
            publish(pack, pack == 5 ? "2.0.0" : "1.0.0", pack);
        }
        want(0, "*", DONE);
        noSolution();
        publish(5, "1.0.0", 6);
        solve(6, 0, 1, 2, 3, 4, 6);
        // Each with four comparators.
        publication("1.2.3;0 1,1,1,1;1 1,1,1,1;2 1,1,1,1;3 1,1,1,1;4 1,1,1,1", true);
        publication("1.2.3;0 1,1,1,1;1 1,1,1,1;2 1,1,1,1;3 1,1,1,1;4 1,1,1,1,1", false);
    }

    private static void publicationHasTheDigitOfAPackageAndABlank() {
        begin("a semicolon, the digit of a package, a blank, and a REQUIREMENT");
        for (int c = 0; c < 256; c++) {
            String one = String.valueOf((char) c);
            publication("1.2.3;" + one + " *", c >= '0' && c <= '7');
            publication("1.2.3;1" + one + "*", c == ' ');
            publication("1.2.3" + one + "1 *", c == ';');
            publication("1.2.3;1 *" + one + "2 *", c == ';');
        }
        for (String needs : new String[] {";1  *", ";1 * ", ";1 *;2 *", ";1 * ;2 * ", ";1  * , *  ;2 *"}) {
            publication("1.2.3" + needs, true);
        }
        for (String needs : new String[] {";", ";1", ";1 ", ";1  ", ";1*", ";1 1+a", "; *", "; 1 *", ";*", ";12 *", ";01 *",
            ";-1 *", ";1 ;2 *", ";1 *,", ";1 *,2 *", ";1 2,3,4,5,6", ";1\t*", ";1 *;", ";1 *; ", ";;1 *", ";1 *;;2 *"}) {
            publication("1.2.3" + needs, false);
        }
    }

    private static void noTwoOfTheSamePackage() {
        begin("no two of the same package (the published one itself may be among them)");
        for (int first = 0; first < 8; first++) {
            for (int other = 0; other < 8; other++) {
                publication("1.2.3;" + first + " *;" + other + " *", first != other);
            }
        }
        publication("1.2.3;0 *;1 *;2 *;3 *;0 *", false);
        publication("1.2.3;1 *;2 *;3 *;0 *;0 *", false);
        publication("1.2.3;1 *;2 *;3 *;2 1;0 *", false);
        fresh();
        for (int pack = 0; pack < 8; pack++) {
            publish(pack, "1.2.3;" + pack + " *", pack);
            needs(pack, 0, pack);
        }
    }

    private static void nothingElseMayStandBeforeBetweenAndBehind() {
        begin("Nothing else may stand before, between and behind");
        String whole = "1.2.3-a+b;1 2.3;4 *";
        publication(whole, true);
        for (int c = 0; c < 256; c++) {
            String one = String.valueOf((char) c);
            boolean digit = c >= '0' && c <= '9';
            publication(one + whole, digit && c != '0');
            publication(whole + one, c == ' ');
            publication("1.2.3" + one, digit);
            publication("1.2.3;1 2" + one + ";4 *", digit || c == ' ');
            publication("1.2.3" + one + ";1 *", digit);
        }
        for (String text : new String[] {" 1.2.3", "1.2.3 ", "1.2.3 ;1 *", "1.2.3\n", "\n1.2.3", "1.2.3\u0000", "1.2.3,1.2.4",
            "1.2.3 1.2.4", "1.2.3;1.2.4", "1.2.3;1 *\n", "1.2.3; 1 *", "1.2.3;1 * *"}) {
            publication(text, false);
        }
    }
}
