/** The sentences of each promise, and those on all calls: each with a test of its own. */
public final class CallTest extends Calls {
    private static final int[] NEGATIVE = {Integer.MIN_VALUE, Integer.MIN_VALUE + 1, -257, -41, -2, -1};
    private static final int NONE = VersionSolver.NONE;

    public static void main(String[] args) {
        atMost512Calls();
        packagesAre0To7();
        versionsAreNumbered();
        eachMayBeYanked();
        theFirstExceptionThatFits();
        aNewObject();
        newObjectsHaveNothingInCommon();
        feedTakesTheLowestBytes();
        feedTellsHowManyItHas();
        feedOfNot1To8();
        feedOfMoreThan160();
        publishTellsTheNumber();
        publishOfNoPackage();
        publishOfNoPublication();
        publishOfTheSamePrecedence();
        publishBeyond40();
        yankTellsWhetherItWas();
        wantFromNowOn();
        wantOfNoRequirement();
        dropTellsWhetherItHad();
        solveTellsHowMany();
        solveWithoutSolution();
        chosenOfTheLatest();
        chosenNone();
        lockOfTheLatest();
        lockOfNothing();
        lockPinsNothingElse();
        pinTellsWhichItPinned();
        unlockTellsHowMany();
        meetsOfYankedToo();
        bestIsHighestAndNotYanked();
        compareOfAnyPackages();
        needsInTheirOrder();
        toldOfEach();
        writeOfTheLatest();
        writeAsItWasPublished();
        writeTheLongestFile();
        fileByteOfNone();
        end();
    }

    private static void feedDue(long bytes, int n, Object want) {
        due("feed(" + bytes + ", " + n + ")", want, () -> x.feed(bytes, n));
    }

    private static void writeDue(int want) {
        due("write()", want, () -> x.write());
    }

    private static void solveDue(Object want) {
        due("solve()", want, () -> x.solve());
    }

    /** No version's number, when there are so many versions. */
    private static int[] wrongVersions(int count) {
        int[] wrong = new int[NEGATIVE.length + 6];
        System.arraycopy(NEGATIVE, 0, wrong, 0, NEGATIVE.length);
        int[] behind = {count, count + 1, count + 32, count + 64, 1 << 30, Integer.MAX_VALUE};
        System.arraycopy(behind, 0, wrong, NEGATIVE.length, behind.length);
        return wrong;
    }

    private static void atMost512Calls() {
        begin("An object is used for at most 512 calls after it has been made");
        for (int v = 0; v < 40; v++) {
            publish(v % 8, "1.0." + v + ";" + (v + 1) % 8 + " *;" + (v + 3) % 8 + " >=1", v);
        }
        want(5, "*", DONE);
        int[] pinned = {NONE, NONE, NONE, NONE, NONE, NONE, NONE, NONE};
        while (callsSoFar() < MOST_CALLS - 20) {
            int version = callsSoFar() % 40;
            pin(version, pinned[version % 8]);
            pinned[version % 8] = version;
        }
        unlock(8);
        while (callsSoFar() < MOST_CALLS - 10) {
            told(0, 40);
        }
        solve(8, 32, 33, 34, 35, 36, 37, 38, 39);
        // The 512th call of all.
        writeDue(8 * 9);
    }

    private static void packagesAre0To7() {
        begin("PACKAGES are 0 .. 7");
        for (int pack = 0; pack < 8; pack++) {
            publish(pack, "1.0.0", pack);
            want(pack, "1", DONE);
            best(pack, "1", pack);
            chosen(pack, NONE);
            drop(pack, true);
        }
        begin("PACKAGES are 0 .. 7: there is no other");
        for (int pack : WRONG_PACKS) {
            publish(pack, "1.0.0", INDEX);
            want(pack, "1", INDEX);
            best(pack, "1", INDEX);
            chosen(pack, INDEX);
            drop(pack, INDEX);
        }
        told(0, 0);
        told(2, 0);
    }

    private static void versionsAreNumbered() {
        begin("Versions that were published are numbered 0, 1, .. , 40 at most in all");
        int next = 0;
        for (int k = 0; k < 40; k++) {
            // What is refused takes no number.
            if (k % 3 == 0) {
                publish(k % 8, "1.0", ARGUMENT);
            }
            if (k >= 8 && k % 5 == 0) {
                publish(k % 8, "1.0." + (k - 8), STATE);
            }
            told(0, next);
            publish(k % 8, "1.0." + k, next);
            next++;
            told(0, next);
        }
        publish(0, "9.0.0", UNSUPPORTED);
        told(0, 40);
        for (int v = 0; v < 40; v++) {
            needs(v, 0, NONE);
        }
        needs(40, 0, INDEX);
    }

    private static void eachMayBeYanked() {
        begin("Each may be YANKED");
        for (int v = 0; v < 40; v++) {
            publish(v % 8, "1.0." + v, v);
        }
        for (int v = 0; v < 40; v++) {
            yank(v, true, false);
            told(1, v + 1);
        }
        for (int pack = 0; pack < 8; pack++) {
            best(pack, "*", NONE);
        }
        for (int v = 39; v >= 0; v--) {
            yank(v, false, true);
            told(1, v);
            best(v % 8, "=1.0." + v, v);
        }
    }

    private static void theFirstExceptionThatFits() {
        begin("Where a call names several exceptions, the first one that fits is thrown");
        for (int k = 0; k < 20; k++) {
            feedDue(-1, 8, 8 * k + 8);
        }
        // feed: IllegalArgument before IllegalState.
        feedDue(0, 0, ARGUMENT);
        feedDue(0, 9, ARGUMENT);
        feedDue(0, Integer.MAX_VALUE, ARGUMENT);
        feedDue(0, 1, STATE);
        // publish, want, meets, best: IndexOutOfBounds before IllegalArgument.
        publish(8, "", INDEX);
        publish(8, "x", INDEX);
        want(8, "x", INDEX);
        best(8, "x", INDEX);
        meets(0, "x", INDEX);
        meets(-1, "", INDEX);
        for (int v = 0; v < 40; v++) {
            publish(v % 8, "1.0." + v, v);
        }
        // publish: IllegalArgument before IllegalState and UnsupportedOperation.
        publish(0, "1.0.0;8 *", ARGUMENT);
        publish(0, "1.0.0;1 *;1 *", ARGUMENT);
        publish(0, "9.0.0;", ARGUMENT);
        publish(0, "", ARGUMENT);
        // IllegalState before UnsupportedOperation.
        publish(0, "1.0.0", STATE);
        publish(7, "1.0.39+a;1 *", STATE);
        publish(0, "1.0.1", UNSUPPORTED);
        // IndexOutOfBounds before all.
        publish(8, "1.0.0", INDEX);
        publish(8, "9.0.0", INDEX);
        publish(-1, "1.0.0;", INDEX);
        meets(40, "x", INDEX);
    }

    private static void aNewObject() {
        begin("No versions, an empty root, lock and file, nothing chosen");
        for (int what = 0; what <= 4; what++) {
            told(what, 0);
        }
        for (int pack = 0; pack < 8; pack++) {
            chosen(pack, NONE);
            best(pack, "*", NONE);
            drop(pack, false);
        }
        fileIs("");
        compare(0, 0, INDEX);
        needs(0, 0, INDEX);
        pin(0, INDEX);
        yank(0, true, INDEX);
        meets(0, "*", INDEX);
        unlock(0);
        lock(0);
        file("");
        solve(0);
        file("");
    }

    private static void newObjectsHaveNothingInCommon() {
        begin("No versions, an empty root, lock and file, nothing chosen: whatever another object has");
        publish(0, "1.0.0", 0);
        want(0, "*", DONE);
        solve(1, 0);
        lock(1);
        yank(0, true, false);
        file("0 1.0.0\n");
        feed("abc");
        VersionSolver older = x;
        fresh();
        for (int what = 0; what <= 4; what++) {
            told(what, 0);
        }
        chosen(0, NONE);
        fileByte(0, INDEX);
        drop(0, false);
        publish(0, "1.0.0", 0);
        pin(0, NONE);
        yank(0, true, false);
        x = older;
        told(4, 3);
        chosen(0, 0);
        fileIs("0 1.0.0\n");
    }

    private static void feedTakesTheLowestBytes() {
        begin("The n lowest of eight bytes come behind the text, the lowest one first");
        publish(0, "1.2.3-abcdefgh", 0);
        String text = "=1.2.3-abcdefgh";
        for (int n = 1; n <= 8; n++) {
            for (int at = 0; at < text.length(); at += n) {
                int many = Math.min(n, text.length() - at);
                // The bytes above the lowest ones are other ones each time, and must not come along.
                long above = many == 8 ? 0 : (n % 2 == 0 ? -1L : 0x2a2a2a2a2a2a2a2aL) << 8 * many;
                long bytes = packed(text.getBytes(), at, many) | above;
                feedDue(bytes, many, at + many);
            }
            meets(0, "", true);
        }
        // The eighth byte has the highest bit of the long.
        feedDue(0xff00000000000000L | packed("=1.2.3-".getBytes(), 0, 7), 7, 7);
        meets(0, "abcdefgh", true);
        feedDue(0xe100000000000000L | packed("=1.2.3-".getBytes(), 0, 7), 8, 8);
        meets(0, "bcdefgh", ARGUMENT);
    }

    private static void feedTellsHowManyItHas() {
        begin("how many it has");
        int has = 0;
        for (int n = 8; n >= 1; n--) {
            has += n;
            feedDue(0, n, has);
            told(4, has);
        }
        want(0, "", ARGUMENT);
        feedDue(0, 3, 3);
        told(4, 3);
    }

    private static void feedOfNot1To8() {
        begin("IllegalArgument: n is not 1 .. 8");
        feedDue('*', 1, 1);
        for (int n : new int[] {0, -1, -8, 9, 10, 16, 64, 161, 256, 257, Integer.MAX_VALUE, Integer.MIN_VALUE}) {
            feedDue(0x2a2a2a2a2a2a2a2aL, n, ARGUMENT);
            told(4, 1);
        }
        want(0, "", DONE);
        for (int n = 1; n <= 8; n++) {
            feedDue(0x2020202020202020L, n, n);
            want(0, "*", DONE);
        }
    }

    private static void feedOfMoreThan160() {
        begin("IllegalState: it would have more than 160; it stays then");
        for (int k = 1; k <= 19; k++) {
            feedDue(0x2020202020202020L, 8, 8 * k);
        }
        feedDue('*', 1, 153);
        feedDue(-1L, 8, STATE);
        told(4, 153);
        feedDue(0x20202020202020L, 7, 160);
        for (int n = 1; n <= 8; n++) {
            feedDue(-1L, n, STATE);
            told(4, 160);
        }
        // It is what it was: blanks round a star.
        want(0, "", DONE);
        told(2, 1);
        // And there is room again.
        feedDue('*', 1, 1);
    }

    private static void publishTellsTheNumber() {
        begin("The text is a PUBLICATION of a package: the version's number");
        for (int v = 0; v < 16; v++) {
            publish(7 - v % 8, v / 8 + ".0.0", v);
            best(7 - v % 8, "=" + v / 8 + ".0.0", v);
        }
    }

    private static void publishOfNoPackage() {
        begin("publish. IndexOutOfBounds: there is no such package");
        for (int pack : WRONG_PACKS) {
            publish(pack, "1.0.0", INDEX);
            told(0, 0);
            told(4, 0);
        }
        publish(0, "1.0.0", 0);
        publish(7, "1.0.0", 1);
    }

    private static void publishOfNoPublication() {
        begin("publish. IllegalArgument: it is none");
        for (String text : new String[] {"", " ", "1", "1.0", "*", "^1.0.0", "1.0.0 ", "1.0.0;", "1.0.0;1", "1.0.0;8 *"}) {
            publish(0, text, ARGUMENT);
            told(0, 0);
            told(4, 0);
        }
        publish(0, "1.0.0", 0);
    }

    private static void publishOfTheSamePrecedence() {
        begin("IllegalState: the package has a version of the same precedence");
        publish(0, "1.0.0", 0);
        publish(0, "1.0.0", STATE);
        publish(0, "1.0.0+a", STATE);
        publish(0, "1.0.0;0 *", STATE);
        told(0, 1);
        needs(0, 0, NONE);
        publish(0, "1.0.0-a", 1);
        publish(0, "1.0.0-a+b", STATE);
        // Also of one that is yanked, pinned or chosen; but another package may have it.
        yank(0, true, false);
        publish(0, "1.0.0", STATE);
        publish(1, "1.0.0", 2);
        publish(1, "1.0.0", STATE);
        publish(0, "1.0.1", 3);
        publish(0, "1.0.0-a.0", 4);
        told(0, 5);
    }

    private static void publishBeyond40() {
        begin("UnsupportedOperation: there are 40");
        for (int v = 0; v < 39; v++) {
            publish(0, "1.0." + v, v);
        }
        told(0, 39);
        publish(7, "1.0.0", 39);
        for (int pack = 0; pack < 8; pack++) {
            publish(pack, "2.0.0", UNSUPPORTED);
            told(0, 40);
            told(4, 0);
        }
        // A yanked one keeps its place.
        yank(0, true, false);
        publish(0, "2.0.0", UNSUPPORTED);
        best(0, "2", NONE);
    }

    private static void yankTellsWhetherItWas() {
        begin("A version is yanked, or (on false) no longer: whether it was");
        publish(0, "1.0.0", 0);
        publish(0, "2.0.0", 1);
        for (int round = 0; round < 2; round++) {
            yank(0, false, false);
            yank(0, true, false);
            yank(0, true, true);
            told(1, 1);
            // The other one is not.
            yank(1, false, false);
            yank(0, false, true);
            yank(0, false, false);
            told(1, 0);
        }
        begin("yank. IndexOutOfBounds: there is no such version");
        publish(0, "1.0.0", 0);
        for (int version : wrongVersions(1)) {
            yank(version, true, INDEX);
            yank(version, false, INDEX);
        }
        told(1, 0);
    }

    private static void wantFromNowOn() {
        begin("The text is a REQUIREMENT: the root's one on a package from now on");
        publish(0, "1.0.0", 0);
        publish(0, "2.0.0", 1);
        solve(0);
        want(0, "1", DONE);
        // Not before solve() is called again.
        chosen(0, NONE);
        solve(1, 0);
        want(0, "2", DONE);
        chosen(0, 0);
        solve(1, 1);
        want(0, "3", DONE);
        noSolution(1);
        publish(0, "3.0.0", 2);
        solve(1, 2);
        begin("want. IndexOutOfBounds: there is no such package");
        for (int pack : WRONG_PACKS) {
            want(pack, "*", INDEX);
            told(2, 0);
            told(4, 0);
        }
    }

    private static void wantOfNoRequirement() {
        begin("want. IllegalArgument: it is none");
        publish(0, "1.0.0", 0);
        publish(0, "2.0.0", 1);
        want(0, "1", DONE);
        for (String text : new String[] {"", " ", "1.", "1,", "1,1,1,1,1", "2+a", "2.0.0+a", "2;1 *", "^*", "02"}) {
            want(0, text, ARGUMENT);
            want(1, text, ARGUMENT);
            told(2, 1);
        }
        // The old one holds on.
        solve(1, 0);
    }

    private static void dropTellsWhetherItHad() {
        begin("The root has no requirement on a package any more: whether it had");
        for (int pack = 0; pack < 8; pack++) {
            drop(pack, false);
            want(pack, "*", DONE);
        }
        want(3, "1", DONE);
        for (int pack = 7; pack >= 0; pack--) {
            drop(pack, true);
            drop(pack, false);
            told(2, pack);
        }
        solve(0);
        begin("drop. IndexOutOfBounds: there is no such package");
        want(0, "*", DONE);
        for (int pack : WRONG_PACKS) {
            drop(pack, INDEX);
        }
        told(2, 1);
    }

    private static void solveTellsHowMany() {
        begin("The solution that is before all others is CHOSEN: how many packages have versions");
        for (int pack = 0; pack < 8; pack++) {
            publish(pack, "1.0.0", pack);
        }
        for (int many = 0; many <= 8; many++) {
            solveDue(many);
            for (int pack = 0; pack < 8; pack++) {
                chosen(pack, pack < many ? pack : NONE);
            }
            if (many < 8) {
                want(many, "*", DONE);
            }
        }
        // Again and again the same.
        solveDue(8);
        solveDue(8);
        // One that the root does not require counts, too.
        begin("how many packages have versions: with those that versions require");
        publish(0, "1.0.0;1 *;2 *", 0);
        publish(1, "1.0.0;2 *", 1);
        publish(2, "1.0.0", 2);
        want(0, "*", DONE);
        solve(3, 0, 1, 2);
    }

    private static void solveWithoutSolution() {
        begin("IllegalState: there is no solution");
        want(0, "*", DONE);
        noSolution();
        publish(0, "1.0.0", 0);
        solve(1, 0);
        file("0 1.0.0\n");
        want(1, "*", DONE);
        noSolution(0);
        noSolution(0);
        fileIs("0 1.0.0\n");
        lock(1);
        drop(1, true);
        solve(1, 0);
    }

    private static void chosenOfTheLatest() {
        begin("The version of a package in what was chosen latest (whatever was published, yanked, wanted or dropped since;"
            + " so for lock() and write())");
        publish(0, "1.0.0", 0);
        want(0, "*", DONE);
        solve(1, 0);
        publish(0, "2.0.0", 1);
        kept();
        yank(0, true, false);
        kept();
        want(0, "2", DONE);
        kept();
        want(1, "*", DONE);
        kept();
        drop(1, true);
        kept();
        drop(0, true);
        kept();
        // Nor does the lock change it.
        pin(1, 0);
        kept();
        unlock(1);
        kept();
        want(5, "*", DONE);
        solveDue(STATE);
        kept();
        drop(5, true);
        unlock(1);
        want(0, "*", DONE);
        solve(1, 1);
        lock(1);
        file("0 2.0.0\n");
    }

    private static void kept() {
        chosen(0, 0);
        chosen(1, NONE);
        file("0 1.0.0\n");
        lock(1);
    }

    private static void chosenNone() {
        begin("NONE when it has none, or nothing was chosen");
        publish(0, "1.0.0", 0);
        publish(1, "1.0.0", 1);
        want(0, "*", DONE);
        for (int pack = 0; pack < 8; pack++) {
            chosen(pack, NONE);
        }
        solve(1, 0);
        drop(0, true);
        want(1, "*", DONE);
        solve(1, -1, 1);
        drop(1, true);
        solve(0);
        begin("chosen. IndexOutOfBounds: there is no such package");
        for (int pack : WRONG_PACKS) {
            chosen(pack, INDEX);
        }
    }

    private static void lockOfTheLatest() {
        begin("THE LOCK pins what was chosen latest");
        for (int pack = 0; pack < 8; pack++) {
            publish(pack, "1.0.0", pack);
            want(pack, "*", DONE);
        }
        solve(8, 0, 1, 2, 3, 4, 5, 6, 7);
        lock(8);
        told(3, 8);
        for (int pack = 0; pack < 8; pack++) {
            publish(pack, "2.0.0", 8 + pack);
            yank(pack, true, false);
        }
        // Pinned, and so allowed, and before the higher ones.
        solve(8, 0, 1, 2, 3, 4, 5, 6, 7);
        lock(8);
        unlock(8);
        solve(8, 8, 9, 10, 11, 12, 13, 14, 15);
        // The lock is not what was chosen, until lock() is called.
        told(3, 0);
    }

    private static void lockOfNothing() {
        begin("(nothing, if nothing was)");
        publish(0, "1.0.0", 0);
        publish(1, "1.0.0", 1);
        pin(0, NONE);
        pin(1, NONE);
        lock(0);
        told(3, 0);
        unlock(0);
        // So when the latest solution has no package.
        pin(0, NONE);
        solve(0);
        told(3, 1);
        lock(0);
        pin(0, NONE);
    }

    private static void lockPinsNothingElse() {
        begin("and nothing else: how many");
        publish(0, "1.0.0", 0);
        publish(1, "1.0.0", 1);
        publish(1, "2.0.0", 2);
        want(1, "*", DONE);
        solve(1, -1, 2);
        pin(0, NONE);
        pin(1, NONE);
        told(3, 2);
        lock(1);
        told(3, 1);
        // Package 1 has the chosen one instead of the pinned one, and package 0 none.
        pin(1, 2);
        pin(0, NONE);
    }

    private static void pinTellsWhichItPinned() {
        begin("THE LOCK pins a version (and no other one of its package): which one it pinned of that package, or NONE");
        publish(0, "1.0.0", 0);
        publish(1, "1.0.0", 1);
        publish(0, "2.0.0", 2);
        pin(0, NONE);
        pin(1, NONE);
        pin(2, 0);
        pin(2, 2);
        pin(0, 2);
        pin(1, 1);
        told(3, 2);
        unlock(2);
        pin(0, NONE);
        want(0, "*", DONE);
        solve(1, 0);
        // What is pinned may be yanked, and need not be reached or meet anything.
        yank(2, true, false);
        pin(2, 0);
        solve(1, 2);
        begin("pin. IndexOutOfBounds: there is no such version");
        publish(0, "1.0.0", 0);
        for (int version : wrongVersions(1)) {
            pin(version, INDEX);
        }
        told(3, 0);
        // The last one of forty.
        for (int v = 1; v < 40; v++) {
            publish(v % 8, "1.1." + v, v);
        }
        pin(39, NONE);
        pin(40, INDEX);
        told(3, 1);
    }

    private static void unlockTellsHowMany() {
        begin("THE LOCK pins nothing: how many it pinned");
        unlock(0);
        for (int pack = 0; pack < 8; pack++) {
            publish(pack, "1.0.0", pack);
        }
        for (int many = 0; many <= 8; many++) {
            for (int pack = 0; pack < many; pack++) {
                pin(pack, NONE);
            }
            unlock(many);
            told(3, 0);
            unlock(0);
        }
        publish(0, "2.0.0", 8);
        want(0, "*", DONE);
        pin(0, NONE);
        solve(1, 0);
        unlock(1);
        solve(1, 8);
    }

    private static void meetsOfYankedToo() {
        begin("The text is a REQUIREMENT: whether a version meets it");
        publish(3, "1.0.0", 0);
        publish(4, "2.0.0;3 9", 1);
        meets(0, "1", true);
        meets(0, "2", false);
        meets(1, "1", false);
        meets(1, "2", true);
        // Whether it is yanked, pinned or chosen does not matter, nor what the root requires.
        yank(0, true, false);
        pin(1, NONE);
        want(3, "9", DONE);
        meets(0, "1", true);
        meets(0, "2", false);
        told(2, 1);
        begin("meets. IndexOutOfBounds: there is no such version");
        publish(0, "1.0.0", 0);
        for (int version : wrongVersions(1)) {
            meets(version, "*", INDEX);
            told(4, 0);
        }
        begin("meets. IllegalArgument: it is none");
        publish(0, "1.0.0", 0);
        for (String text : new String[] {"", " ", "1.", "1,", "1,1,1,1,1", "1.0.0+a", "1;1 *", "^*", "01"}) {
            meets(0, text, ARGUMENT);
            told(4, 0);
        }
    }

    private static void bestIsHighestAndNotYanked() {
        begin("the version of a package, of highest precedence, that meets it and is not yanked");
        publish(0, "1.0.0", 0);
        publish(0, "3.0.0", 1);
        publish(0, "2.0.0;5 9", 2);
        publish(1, "9.0.0", 3);
        publish(0, "3.0.0-b", 4);
        publish(0, "3.0.0-a", 5);
        best(0, "*", 1);
        best(0, "<3", 2);
        best(0, "<3.0.0-a", 2);
        best(0, ">2.0.0, <=3.0.0-b", 4);
        best(0, "<3.0.0-b, >=3.0.0-a", 5);
        best(1, "*", 3);
        // A pinned one that is yanked is yanked.
        pin(1, NONE);
        yank(1, true, false);
        best(0, "*", 2);
        yank(2, true, false);
        best(0, "*", 0);
        yank(1, false, true);
        best(0, "*", 1);
        begin("NONE when there is none");
        best(0, "*", NONE);
        publish(1, "1.0.0", 0);
        best(0, "*", NONE);
        best(1, "2", NONE);
        best(1, "1", 0);
        yank(0, true, false);
        best(1, "1", NONE);
        begin("best. IndexOutOfBounds: there is no such package");
        for (int pack : WRONG_PACKS) {
            best(pack, "*", INDEX);
            told(4, 0);
        }
        begin("best. IllegalArgument: it is none");
        publish(0, "1.0.0", 0);
        for (String text : new String[] {"", " ", "1.", "1,", "1,1,1,1,1", "1.0.0+a", "1;1 *", "^*", "01"}) {
            best(0, text, ARGUMENT);
            best(1, text, ARGUMENT);
            told(4, 0);
        }
    }

    private static void compareOfAnyPackages() {
        begin("The precedence of two versions, of any packages: -1 the first is below, 0 the same, 1");
        publish(0, "1.0.0", 0);
        publish(0, "999999999.0.0", 1);
        publish(7, "1.0.0+a", 2);
        publish(7, "1.0.0-a", 3);
        compare(0, 0, 0);
        compare(0, 1, -1);
        compare(1, 0, 1);
        compare(0, 2, 0);
        compare(2, 0, 0);
        compare(3, 0, -1);
        compare(0, 3, 1);
        compare(2, 1, -1);
        begin("compare. IndexOutOfBounds: there are no such versions");
        publish(0, "1.0.0", 0);
        for (int version : wrongVersions(1)) {
            compare(version, 0, INDEX);
            compare(0, version, INDEX);
            compare(version, version, INDEX);
        }
    }

    private static void needsInTheirOrder() {
        begin("The package of a version's k-th requirement, from 0 on, in the order in which they were published");
        publish(1, "1.0.0;7 *;1 *;6 2,3;0 *;3 <1", 0);
        publish(1, "1.0.1;2 *", 1);
        publish(1, "1.0.2", 2);
        int[] packs = {7, 1, 6, 0, 3};
        for (int k = 0; k < 5; k++) {
            needs(0, k, packs[k]);
        }
        needs(1, 0, 2);
        begin("NONE when there is none: needs");
        publish(1, "1.0.0;7 *;1 *;6 2,3;0 *;3 <1", 0);
        publish(1, "1.0.1;2 *", 1);
        publish(1, "1.0.2", 2);
        for (int k : new int[] {5, 6, 8, 32, Integer.MAX_VALUE, -1, -2, -5, Integer.MIN_VALUE}) {
            needs(0, k, NONE);
            needs(1, k, NONE);
            needs(2, k, NONE);
        }
        needs(1, 1, NONE);
        needs(2, 0, NONE);
        begin("needs. IndexOutOfBounds: there is no such version");
        publish(1, "1.0.0;7 *", 0);
        for (int version : wrongVersions(1)) {
            needs(version, 0, INDEX);
            needs(version, -1, INDEX);
        }
    }

    private static void toldOfEach() {
        begin("How many versions there are (what = 0)");
        told(0, 0);
        for (int v = 0; v < 40; v++) {
            publish(v % 8, "1.0." + v, v);
            told(0, v + 1);
        }
        begin("how many of them are yanked (1)");
        publish(0, "1.0.0", 0);
        publish(0, "2.0.0", 1);
        told(1, 0);
        yank(0, true, false);
        yank(0, true, true);
        told(1, 1);
        yank(1, true, false);
        told(1, 2);
        yank(0, false, true);
        told(1, 1);
        begin("requirements of the root (2)");
        told(2, 0);
        want(0, "1,2,3,4", DONE);
        told(2, 1);
        want(0, "1", DONE);
        told(2, 1);
        want(7, "1", DONE);
        told(2, 2);
        drop(0, true);
        told(2, 1);
        begin("versions that the lock pins (3)");
        publish(0, "1.0.0", 0);
        publish(0, "2.0.0", 1);
        publish(1, "2.0.0", 2);
        told(3, 0);
        pin(0, NONE);
        pin(1, 0);
        told(3, 1);
        pin(2, NONE);
        told(3, 2);
        unlock(2);
        told(3, 0);
        begin("bytes of the text (4)");
        told(4, 0);
        feed("12345678901");
        told(4, 11);
        told(4, 11);
        want(0, "", ARGUMENT);
        told(4, 0);
        begin("NONE for another what");
        feed("123");
        publish(0, "", ARGUMENT);
        publish(0, "1.0.0", 0);
        for (int what : new int[] {5, 6, 8, 256, 1 << 30, Integer.MAX_VALUE, -1, -2, -5, Integer.MIN_VALUE}) {
            told(what, NONE);
        }
    }

    private static void writeOfTheLatest() {
        begin("THE FILE is written of what was chosen latest");
        publish(2, "1.0.0;5 *", 0);
        publish(5, "2.0.0", 1);
        want(2, "*", DONE);
        // Nothing was chosen yet.
        file("");
        solve(2, -1, -1, 0, -1, -1, 1);
        // It is not written before write() is called.
        fileIs("");
        file("2 1.0.0\n5 2.0.0\n");
        drop(2, true);
        solve(0);
        fileIs("2 1.0.0\n5 2.0.0\n");
        // A shorter one leaves nothing of the longer one.
        want(5, "*", DONE);
        solve(1, -1, -1, -1, -1, -1, 1);
        file("5 2.0.0\n");
        drop(5, true);
        solve(0);
        file("");
        want(2, "*", DONE);
        solve(2, -1, -1, 0, -1, -1, 1);
        file("2 1.0.0\n5 2.0.0\n");
        file("2 1.0.0\n5 2.0.0\n");
    }

    private static void writeAsItWasPublished() {
        begin("its digit, a blank, the version as it was published, and byte 10: how many bytes");
        String[] versions = {"0.0.0", "10.20.30-a.b", "1.2.3+001.-", "1.2.3-0.A-z+a.00"};
        StringBuilder all = new StringBuilder();
        for (int k = 0; k < versions.length; k++) {
            int pack = 2 * k;
            // What it requires is not written.
            publish(pack, versions[k] + ";7 *", k);
            want(pack, "=" + versions[k].replaceAll("[+].*", ""), DONE);
            all.append(pack).append(' ').append(versions[k]).append('\n');
        }
        publish(7, "7.7.7", 4);
        solve(5, 0, -1, 1, -1, 2, -1, 3, 4);
        file(all + "7 7.7.7\n");
    }

    private static void writeTheLongestFile() {
        begin("THE FILE: for each package that has a version, from 0 on: at its longest");
        StringBuilder all = new StringBuilder();
        for (int pack = 7; pack >= 0; pack--) {
            String version = pack % 2 == 0 ? "999999999.999999999.999" + pack : "1.2." + pack + "+aaaaaaaaaaaaaaaaaa";
            publish(pack, version, 7 - pack);
            want(pack, "*", DONE);
            all.insert(0, pack + " " + version + "\n");
        }
        solve(8, 7, 6, 5, 4, 3, 2, 1, 0);
        file(all.toString());
        told(0, 8);
        fileByte(8 * 27, INDEX);
    }

    private static void fileByteOfNone() {
        begin("Byte i of the file. IndexOutOfBounds: there is none");
        for (int i : new int[] {0, 1, -1, Integer.MAX_VALUE, Integer.MIN_VALUE}) {
            fileByte(i, INDEX);
        }
        publish(0, "1.0.0", 0);
        want(0, "*", DONE);
        solve(1, 0);
        writeDue(8);
        fileByte(0, (int) '0');
        fileByte(1, 32);
        fileByte(2, (int) '1');
        fileByte(6, (int) '0');
        fileByte(7, 10);
        for (int i : new int[] {8, 9, 215, 216, 217, 1 << 30, Integer.MAX_VALUE, -1, -2, -8, Integer.MIN_VALUE}) {
            fileByte(i, INDEX);
        }
    }
}
