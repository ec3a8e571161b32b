/** The document's sentences on THE ROOT, THE LOCK and A SOLUTION: each with a test of its own. */
public final class SolutionTest extends Calls {
    public static void main(String[] args) {
        theRootHasOneRequirementAtMost();
        theLockPinsOneVersionAtMost();
        somePackagesGetAVersion();
        oneOfTheirVersionsEach();
        noneThatIsYanked();
        yankedButPinned();
        whatTheRootRequiresHasAVersion();
        whatAVersionRequiresHasAVersion();
        itMeetsAllThoseRequirements();
        whatAVersionRequiresOfItsOwnPackage();
        onlyAGivenVersionRequires();
        reachedByTheRoot();
        reachedByAVersion();
        notReachedByOneAnother();
        notReachedByAVersionThatIsNotGiven();
        reachedInWhicheverOrder();
        beforeWithNone();
        beforeWithNoneAndThePin();
        beforeWithThePinnedVersion();
        beforeWithHigherPrecedence();
        atTheFirstPackageWhereTheyDiffer();
        eachTwoAgreeButNotAll();
        theFirstOneThatAllAgreeOn();
        notTheFirstButTheSecond();
        fullRegistry();
        end();
    }

    private static void theRootHasOneRequirementAtMost() {
        begin("THE ROOT has for each package one requirement at most");
        publish(2, "1.0.0", 0);
        publish(2, "2.0.0", 1);
        want(2, "1", DONE);
        told(2, 1);
        solve(1, -1, -1, 0);
        // The later one stands alone: both together would leave no solution.
        want(2, "2", DONE);
        told(2, 1);
        solve(1, -1, -1, 1);
        drop(2, true);
        told(2, 0);
        drop(2, false);
        for (int pack = 0; pack < 8; pack++) {
            want(pack, "*", DONE);
            told(2, pack + 1);
        }
        for (int pack = 0; pack < 8; pack++) {
            want(pack, "1", DONE);
            told(2, 8);
        }
    }

    private static void theLockPinsOneVersionAtMost() {
        begin("THE LOCK pins for each package one version at most");
        publish(0, "1.0.0", 0);
        publish(0, "2.0.0", 1);
        publish(0, "3.0.0", 2);
        want(0, "*", DONE);
        pin(0, -1);
        pin(1, 0);
        told(3, 1);
        // The one that was pinned before is pinned no more.
        yank(0, true, false);
        want(0, "1", DONE);
        noSolution();
        want(0, "<3", DONE);
        solve(1, 1);
        unlock(1);
        told(3, 0);
        begin("THE LOCK pins for each package one version at most: for eight of them");
        for (int pack = 0; pack < 8; pack++) {
            publish(pack, "1.0.0", 2 * pack);
            publish(pack, "2.0.0", 2 * pack + 1);
            pin(2 * pack, -1);
            told(3, pack + 1);
        }
        for (int pack = 0; pack < 8; pack++) {
            pin(2 * pack + 1, 2 * pack);
            told(3, 8);
        }
        unlock(8);
    }

    private static void somePackagesGetAVersion() {
        begin("A SOLUTION gives some packages one of their versions each: none of them, for an empty root");
        solve(0);
        publish(0, "1.0.0", 0);
        publish(7, "1.0.0;0 *", 1);
        solve(0);
        want(7, "*", DONE);
        solve(2, 0, -1, -1, -1, -1, -1, -1, 1);
        drop(7, true);
        solve(0);
        begin("A SOLUTION gives some packages one of their versions each: all of them");
        for (int pack = 0; pack < 8; pack++) {
            publish(pack, "1.0.0", pack);
            want(pack, "*", DONE);
        }
        solve(8, 0, 1, 2, 3, 4, 5, 6, 7);
    }

    private static void oneOfTheirVersionsEach() {
        begin("one of their versions each: of their own ones");
        publish(1, "1.0.0", 0);
        want(0, "1", DONE);
        noSolution();
        publish(0, "2.0.0", 1);
        noSolution();
        publish(0, "1.0.0", 2);
        solve(1, 2);
        begin("one of their versions each: two are too many");
        publish(0, "1.0.0;2 1", 0);
        publish(1, "1.0.0;2 2", 1);
        publish(2, "1.0.0", 2);
        publish(2, "2.0.0", 3);
        want(0, "*", DONE);
        solve(2, 0, -1, 2);
        want(1, "*", DONE);
        noSolution(0, -1, 2);
        drop(0, true);
        solve(2, -1, 1, 3);
    }

    private static void noneThatIsYanked() {
        begin("none that is yanked");
        publish(0, "1.0.0;1 *", 0);
        publish(0, "2.0.0;1 *", 1);
        publish(1, "1.0.0", 2);
        want(0, "*", DONE);
        solve(2, 1, 2);
        yank(1, true, false);
        solve(2, 0, 2);
        yank(0, true, false);
        noSolution(0, 2);
        yank(1, false, true);
        solve(2, 1, 2);
        // Nor one that only a version requires.
        yank(2, true, false);
        noSolution(1, 2);
        publish(1, "0.1.0", 3);
        solve(2, 1, 3);
        // That a yanked one requires something counts as little.
        begin("none that is yanked: what it requires does not count");
        publish(0, "1.0.0", 0);
        publish(0, "2.0.0;1 *", 1);
        want(0, "*", DONE);
        yank(1, true, false);
        publish(1, "1.0.0", 2);
        solve(1, 0);
    }

    private static void yankedButPinned() {
        begin("none that is yanked, but pinned ones");
        publish(0, "1.0.0;1 *", 0);
        publish(0, "2.0.0;1 *", 1);
        publish(1, "1.0.0", 2);
        want(0, "*", DONE);
        yank(0, true, false);
        yank(2, true, false);
        noSolution();
        // The pin of another package does not help, nor that of another version.
        pin(0, -1);
        noSolution();
        pin(2, -1);
        solve(2, 0, 2);
        pin(1, 0);
        solve(2, 1, 2);
        want(0, "1", DONE);
        noSolution(1, 2);
        pin(0, 1);
        solve(2, 0, 2);
        unlock(2);
        noSolution(0, 2);
        lock(2);
        solve(2, 0, 2);
        begin("none that is yanked, but pinned ones: pinned before it is yanked");
        publish(0, "1.0.0", 0);
        publish(0, "2.0.0", 1);
        want(0, "*", DONE);
        pin(0, -1);
        yank(0, true, false);
        solve(1, 0);
        yank(0, false, true);
        solve(1, 0);
    }

    private static void whatTheRootRequiresHasAVersion() {
        begin("each package that the root has a requirement on has a version");
        for (int pack = 0; pack < 8; pack++) {
            fresh();
            want(pack, "*", DONE);
            noSolution();
            publish((pack + 1) % 8, "1.0.0", 0);
            noSolution();
            publish(pack, "1.0.0", 1);
            int[] due = new int[8];
            for (int each = 0; each < 8; each++) {
                due[each] = each == pack ? 1 : VersionSolver.NONE;
            }
            solve(1, due);
        }
        // One of two is too few.
        fresh();
        publish(0, "1.0.0", 0);
        want(0, "*", DONE);
        want(7, "*", DONE);
        noSolution();
    }

    private static void whatAVersionRequiresHasAVersion() {
        begin("or a version that is given, has a version");
        publish(3, "1.0.0;5 *", 0);
        want(3, "*", DONE);
        noSolution();
        publish(5, "1.0.0;1 2", 1);
        noSolution();
        publish(1, "1.9.9", 2);
        noSolution();
        publish(1, "2.0.0", 3);
        solve(3, -1, 3, -1, 0, -1, 1);
        // A version that can't have what it requires gives way to a lower one.
        publish(3, "2.0.0;6 *", 4);
        solve(3, -1, 3, -1, 0, -1, 1);
        publish(6, "1.0.0", 5);
        solve(2, -1, -1, -1, 4, -1, -1, 5);
    }

    private static void itMeetsAllThoseRequirements() {
        begin("and it meets all those requirements");
        publish(0, "1.0.0;3 >1", 0);
        publish(1, "1.0.0;3 <5", 1);
        publish(2, "1.0.0;3 <=5, >=3", 2);
        for (int v = 1; v <= 6; v++) {
            publish(3, v + ".0.0", v + 2);
        }
        want(0, "*", DONE);
        solve(2, 0, -1, -1, 8);
        want(1, "*", DONE);
        solve(3, 0, 1, -1, 6);
        want(2, "*", DONE);
        solve(4, 0, 1, 2, 6);
        want(3, "<4", DONE);
        solve(4, 0, 1, 2, 5);
        want(3, "<3", DONE);
        noSolution(0, 1, 2, 5);
        drop(2, true);
        solve(3, 0, 1, -1, 4);
        want(3, "<2", DONE);
        noSolution(0, 1, -1, 4);
        begin("and it meets all those requirements: of seven versions");
        for (int pack = 0; pack < 7; pack++) {
            publish(pack, "1.0.0;7 >" + pack, pack);
            want(pack, "*", DONE);
        }
        publish(7, "6.0.0", 7);
        noSolution();
        publish(7, "7.0.0", 8);
        solve(8, 0, 1, 2, 3, 4, 5, 6, 8);
    }

    private static void whatAVersionRequiresOfItsOwnPackage() {
        begin("(the published one itself may be among them): then it meets that requirement");
        publish(4, "1.0.0;4 *", 0);
        publish(4, "2.0.0;4 1", 1);
        publish(4, "3.0.0;4 >3", 2);
        publish(4, "4.0.0-a;4 *", 3);
        want(4, "*", DONE);
        solve(1, -1, -1, -1, -1, 0);
        want(4, "2", DONE);
        noSolution(-1, -1, -1, -1, 0);
        // It has words that its own requirement does not name.
        want(4, "4.0.0-a", DONE);
        noSolution(-1, -1, -1, -1, 0);
        publish(4, "4.0.0-b;4 4.0.0-a", 4);
        solve(1, -1, -1, -1, -1, 4);
    }

    private static void onlyAGivenVersionRequires() {
        begin("a version that is given: one that is not given requires nothing");
        publish(0, "1.0.0", 0);
        publish(0, "2.0.0;1 9", 1);
        publish(1, "1.0.0", 2);
        publish(2, "1.0.0;1 9", 3);
        want(0, "*", DONE);
        want(1, "*", DONE);
        solve(2, 0, 2);
    }

    private static void reachedByTheRoot() {
        begin("each package that has one is REACHED: the root has a requirement on it");
        publish(0, "1.0.0", 0);
        publish(1, "1.0.0", 1);
        want(1, "*", DONE);
        solve(1, -1, 1);
        // A pin reaches nothing.
        pin(0, -1);
        solve(1, -1, 1);
        drop(1, true);
        solve(0);
        pin(1, -1);
        solve(0);
        lock(0);
        told(3, 0);
    }

    private static void reachedByAVersion() {
        begin("or a version that is given to a package that is reached");
        // A chain through all eight packages, 3 6 1 4 7 2 5 0.
        int[] chain = {3, 6, 1, 4, 7, 2, 5, 0};
        for (int at = 0; at < 8; at++) {
            publish(chain[at], at < 7 ? "1.0.0;" + chain[at + 1] + " *" : "1.0.0", at);
        }
        solve(0);
        for (int from = 7; from >= 0; from--) {
            want(chain[from], "*", DONE);
            int[] due = {-1, -1, -1, -1, -1, -1, -1, -1};
            for (int at = from; at < 8; at++) {
                due[chain[at]] = at;
            }
            solve(8 - from, due);
            drop(chain[from], true);
        }
        solve(0);
    }

    private static void notReachedByOneAnother() {
        begin("REACHED: not those that only require one another");
        publish(0, "1.0.0;1 *", 0);
        publish(1, "1.0.0;0 *", 1);
        publish(2, "1.0.0;2 *", 2);
        publish(3, "1.0.0;4 *", 3);
        publish(4, "1.0.0;5 *", 4);
        publish(5, "1.0.0;3 *", 5);
        publish(6, "1.0.0", 6);
        solve(0);
        want(6, "*", DONE);
        solve(1, -1, -1, -1, -1, -1, -1, 6);
        want(4, "*", DONE);
        solve(4, -1, -1, -1, 3, 4, 5, 6);
        drop(4, true);
        want(0, "*", DONE);
        solve(3, 0, 1, -1, -1, -1, -1, 6);
        want(2, "*", DONE);
        solve(4, 0, 1, 2, -1, -1, -1, 6);
    }

    private static void notReachedByAVersionThatIsNotGiven() {
        begin("REACHED: not by a version that is not given");
        publish(1, "1.0.0", 0);
        publish(1, "2.0.0;0 *", 1);
        publish(0, "1.0.0", 2);
        publish(2, "1.0.0;0 *", 3);
        want(1, "1", DONE);
        solve(1, -1, 0);
        want(1, "2", DONE);
        solve(2, 2, 1);
        // Nor does a package that is not needed come in to help another one.
        begin("REACHED: a solution that would need one more package is none");
        publish(0, "1.0.0;2 *", 0);
        publish(1, "1.0.0;0 *", 1);
        publish(2, "1.0.0;0 *", 2);
        want(1, "*", DONE);
        solve(3, 0, 1, 2);
        yank(2, true, false);
        noSolution(0, 1, 2);
    }

    private static void reachedInWhicheverOrder() {
        begin("REACHED: whichever number the package has");
        publish(7, "1.0.0;6 *", 0);
        publish(6, "1.0.0;5 *", 1);
        publish(5, "1.0.0;4 *", 2);
        publish(4, "1.0.0;3 *", 3);
        publish(3, "1.0.0;2 *", 4);
        publish(2, "1.0.0;1 *", 5);
        publish(1, "1.0.0;0 *", 6);
        publish(0, "1.0.0", 7);
        want(7, "*", DONE);
        solve(8, 7, 6, 5, 4, 3, 2, 1, 0);
        yank(7, true, false);
        noSolution(7, 6, 5, 4, 3, 2, 1, 0);
    }

    private static void beforeWithNone() {
        begin("Of two solutions that one is BEFORE, which, at the first package where they differ, has none");
        publish(0, "1.0.0", 0);
        publish(1, "3.0.0;0 *", 1);
        publish(1, "2.0.0;2 *", 2);
        publish(1, "1.0.0;2 *;3 *", 3);
        publish(2, "1.0.0", 4);
        publish(3, "1.0.0", 5);
        want(1, "*", DONE);
        // 3.0.0 is higher, but it would give package 0 a version.
        solve(2, -1, 2, 4);
        want(0, "*", DONE);
        solve(2, 0, 1);
        // It is not the number of packages that counts.
        begin("BEFORE: none in an early package, though more packages have versions");
        publish(7, "2.0.0;0 *", 0);
        publish(7, "1.0.0;1 *;2 *;3 *;4 *;5 *", 1);
        for (int pack = 0; pack < 6; pack++) {
            publish(pack, "1.0.0", 2 + pack);
        }
        want(7, "*", DONE);
        solve(6, -1, 3, 4, 5, 6, 7, -1, 1);
    }

    private static void beforeWithNoneAndThePin() {
        begin("BEFORE: has none; else the pinned version");
        publish(0, "1.0.0", 0);
        publish(1, "2.0.0;0 *", 1);
        publish(1, "1.0.0", 2);
        want(1, "*", DONE);
        pin(0, -1);
        pin(1, -1);
        // None comes before the pinned version of package 0, and so before the pinned one of package 1.
        solve(1, -1, 2);
        want(0, "*", DONE);
        solve(2, 0, 1);
    }

    private static void beforeWithThePinnedVersion() {
        begin("else the pinned version");
        publish(0, "1.0.0", 0);
        publish(0, "2.0.0", 1);
        publish(0, "3.0.0", 2);
        want(0, "*", DONE);
        for (int version = 0; version < 3; version++) {
            pin(version, version - 1);
            solve(1, version);
        }
        pin(0, 2);
        // A pinned one that does not meet the requirement gives way to the highest one that does.
        want(0, ">1", DONE);
        solve(1, 2);
        want(0, ">1, <3", DONE);
        solve(1, 1);
        // Or one whose own requirement can't be met.
        begin("else the pinned version: if a solution has it");
        publish(0, "1.0.0;1 *", 0);
        publish(0, "2.0.0", 1);
        publish(0, "3.0.0", 2);
        want(0, "*", DONE);
        pin(0, -1);
        solve(1, 2);
        publish(1, "1.0.0", 3);
        solve(2, 0, 3);
        // A pin on a later package does not decide an earlier one.
        begin("else the pinned version: at the first package where they differ");
        publish(0, "1.0.0;1 1", 0);
        publish(0, "2.0.0;1 2", 1);
        publish(1, "1.0.0", 2);
        publish(1, "2.0.0", 3);
        want(0, "*", DONE);
        pin(2, -1);
        solve(2, 1, 3);
        pin(0, -1);
        solve(2, 0, 2);
    }

    private static void beforeWithHigherPrecedence() {
        begin("else the version of higher precedence");
        String[] versions = {"1.0.0-a", "1.0.0", "0.9.9", "1.0.0-b", "1.0.0-a.1", "1.10.0", "1.9.0", "1.9.0-z"};
        // From below to above.
        int[] order = {2, 0, 4, 3, 1, 7, 6, 5};
        for (int v = 0; v < versions.length; v++) {
            publish(6, versions[v], v);
        }
        want(6, ">=0.0.0, >=0.0.0-0", DONE);
        for (int at = order.length - 1; at >= 0; at--) {
            int version = order[at];
            if (versions[version].indexOf('-') < 0) {
                solve(1, -1, -1, -1, -1, -1, -1, version);
                yank(version, true, false);
            }
        }
        noSolution(-1, -1, -1, -1, -1, -1, 2);
        // With words: each of those that are named.
        want(6, ">=1.0.0-a, <1.0.0", DONE);
        for (int version : new int[] {3, 4, 0}) {
            solve(1, -1, -1, -1, -1, -1, -1, version);
            yank(version, true, false);
        }
        noSolution(-1, -1, -1, -1, -1, -1, 0);
        // It is the precedence that counts, not who came later.
        begin("else the version of higher precedence: not the later one");
        publish(0, "2.0.0", 0);
        publish(0, "1.0.0", 1);
        want(0, "*", DONE);
        solve(1, 0);
    }

    private static void atTheFirstPackageWhereTheyDiffer() {
        begin("at the first package where they differ");
        publish(0, "2.0.0;1 1;2 1;3 1", 0);
        publish(0, "1.0.0;1 9;2 9;3 9", 1);
        for (int pack = 1; pack < 4; pack++) {
            publish(pack, "1.0.0", 2 * pack);
            publish(pack, "9.0.0", 2 * pack + 1);
        }
        want(0, "*", DONE);
        // One package that is better counts more than three behind it.
        solve(4, 0, 2, 4, 6);
        want(0, "1", DONE);
        solve(4, 1, 3, 5, 7);
        // The root's later package does not decide before the earlier one that it only leads to.
        begin("at the first package where they differ: by the packages' numbers, not by who leads to whom");
        publish(7, "2.0.0;0 1", 0);
        publish(7, "1.0.0;0 2", 1);
        publish(0, "1.0.0", 2);
        publish(0, "2.0.0", 3);
        want(7, "*", DONE);
        solve(2, 3, -1, -1, -1, -1, -1, -1, 1);
        begin("at the first package where they differ: where they do not differ, the next one decides");
        publish(0, "1.0.0;1 *", 0);
        publish(1, "1.0.0;2 2", 1);
        publish(1, "1.0.1;2 1", 2);
        publish(2, "1.0.0", 3);
        publish(2, "2.0.0", 4);
        want(0, "*", DONE);
        solve(3, 0, 2, 3);
        pin(1, -1);
        solve(3, 0, 1, 4);
    }

    /**
     * Packages 5, 6 and 7 have the versions 1.0.0 and 2.0.0 each, and no two of them may have the same:
     * each two agree, but never all three.
     */
    private static int publishThreeThatDisagree(int next) {
        publish(5, "1.0.0;6 2;7 2", next);
        publish(5, "2.0.0;6 1;7 1", next + 1);
        publish(6, "1.0.0;7 2", next + 2);
        publish(6, "2.0.0;7 1", next + 3);
        publish(7, "1.0.0", next + 4);
        publish(7, "2.0.0", next + 5);
        return next + 6;
    }

    private static void eachTwoAgreeButNotAll() {
        begin("IllegalState: there is no solution, though each two requirements can be met");
        publishThreeThatDisagree(0);
        want(6, "*", DONE);
        solve(2, -1, -1, -1, -1, -1, -1, 3, 4);
        want(5, "*", DONE);
        noSolution(-1, -1, -1, -1, -1, -1, 3, 4);
        want(7, "*", DONE);
        noSolution(-1, -1, -1, -1, -1, -1, 3, 4);
        publish(7, "3.0.0", 6);
        noSolution(-1, -1, -1, -1, -1, -1, 3, 4);
        publish(5, "0.1.0;6 *;7 *", 7);
        solve(3, -1, -1, -1, -1, -1, 7, 3, 4);
        publish(6, "3.0.0;7 *", 8);
        solve(3, -1, -1, -1, -1, -1, 7, 8, 6);
        want(5, ">=1", DONE);
        noSolution(-1, -1, -1, -1, -1, 7, 8, 6);
    }

    private static void theFirstOneThatAllAgreeOn() {
        begin("The solution that is before all others: those before it fail late");
        int next = publishThreeThatDisagree(0);
        publish(0, "4.0.0;5 *", next);
        publish(0, "3.0.0;5 *;6 *", next + 1);
        publish(0, "2.0.0;6 2", next + 2);
        publish(0, "1.0.0", next + 3);
        publish(0, "5.0.0;7 *;5 2", next + 4);
        want(0, "*", DONE);
        solve(3, next + 2, -1, -1, -1, -1, -1, 3, 4);
        pin(next, -1);
        solve(3, next + 2, -1, -1, -1, -1, -1, 3, 4);
        want(6, "1", DONE);
        solve(3, next + 3, -1, -1, -1, -1, -1, 2, 5);
        want(0, ">2", DONE);
        noSolution(next + 3, -1, -1, -1, -1, -1, 2, 5);
        // A package between that has versions of which the middle one is the first that can be.
        begin("The solution that is before all others: in a package behind the first one");
        next = publishThreeThatDisagree(0);
        publish(0, "1.0.0;3 *", next);
        publish(3, "3.0.0;5 1", next + 1);
        publish(3, "2.0.0;7 *", next + 2);
        publish(3, "1.0.0;6 *", next + 3);
        publish(3, "4.0.0;5 2;7 *", next + 4);
        want(0, "*", DONE);
        // 1.0.0 would give package 6 a version; package 3 comes before it.
        solve(3, next, -1, -1, next + 2, -1, -1, -1, 5);
        yank(next + 2, true, false);
        solve(4, next, -1, -1, next + 3, -1, -1, 3, 4);
        pin(next + 4, -1);
        solve(4, next, -1, -1, next + 3, -1, -1, 3, 4);
    }

    private static void notTheFirstButTheSecond() {
        begin("The solution that is before all others: what is first fails late, and what is third is found early");
        int next = publishThreeThatDisagree(0);
        publish(0, "3.0.0;5 *", next);
        publish(0, "2.0.0", next + 1);
        publish(0, "1.0.0", next + 2);
        publish(4, "2.0.0;0 1", next + 3);
        publish(4, "1.0.0;0 >=2", next + 4);
        want(0, "*", DONE);
        want(4, "*", DONE);
        solve(2, next + 1, -1, -1, -1, next + 4);
        yank(next + 1, true, false);
        solve(2, next + 2, -1, -1, -1, next + 3);
    }

    /** Forty versions of one package, and five of each of eight. */
    private static void fullRegistry() {
        begin("40 at most in all: all of one package");
        for (int v = 0; v < 40; v++) {
            publish(7, (v * 7 % 40) + ".0.0;" + (v == 0 ? "7 *" : "6 *"), v);
        }
        want(7, "*", DONE);
        solve(1, -1, -1, -1, -1, -1, -1, -1, 0);
        pin(39, -1);
        solve(1, -1, -1, -1, -1, -1, -1, -1, 0);
        begin("40 at most in all: five of each package");
        for (int v = 0; v < 40; v++) {
            int pack = v % 8;
            publish(pack, (v / 8) + ".0.0;" + (pack + 1) % 8 + " <=" + v / 8, v);
        }
        want(3, "*", DONE);
        solve(8, 32, 33, 34, 35, 36, 37, 38, 39);
        yank(33, true, false);
        yank(38, true, false);
        yank(30, true, false);
        // Round the ring none may be above the one before it, so that all are of one height.
        solve(8, 16, 17, 18, 19, 20, 21, 22, 23);
        want(3, ">2", DONE);
        noSolution(16, 17, 18, 19, 20, 21, 22, 23);
        pin(33, -1);
        pin(38, -1);
        solve(8, 32, 33, 34, 35, 36, 37, 38, 39);
    }
}
