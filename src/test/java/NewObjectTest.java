/** Promise 1: a new object has nothing, and tells whether memberships belong to the axioms. */
public final class NewObjectTest {
    private static final Check check = new Check();
    private static final int[] MEMBERSHIPS = {0, 1, -1, 8, 9, 10, Integer.MAX_VALUE, Integer.MIN_VALUE};

    public static void main(String[] args) {
        for (int memberships : MEMBERSHIPS) {
            noFacts(memberships);
            noLiterals(memberships);
            noAxioms(memberships);
            noRows(memberships);
            zeroOrNot(memberships);
        }
        nineOfThemBelong();
        withoutAxiomsTheyAreInNoClosure();
        objectsAreApart();
        theLastCallIsAnswered();
        check.due("NONE", RdfsRules.NONE, -1);
        check.due("AXIOM", RdfsRules.AXIOM, -2);
        check.end();
    }

    /** "No facts" */
    private static void noFacts(int memberships) {
        RdfsRules x = new RdfsRules(memberships);
        check.due("told(1)", x.told(1), 0);
        check.due("remove(0, 0, 0)", x.remove(0, 0, 0), 0);
        check.due("remove(100, 100, 100)", x.remove(100, 100, 100), 0);
        check.due("the first fact", x.triple(100, 100, 100), 1);
    }

    /** "no literals" */
    private static void noLiterals(int memberships) {
        RdfsRules x = new RdfsRules(memberships);
        check.due("told(2)", x.told(2), 0);
        check.dueIllegalArgument("300 in a fact", () -> x.triple(100, 100, 300));
        check.dueIllegalArgument("339 in a fact", () -> x.triple(100, 100, 339));
        check.due("the first literal", x.literal(100), 300);
    }

    /** "no axioms" */
    private static void noAxioms(int memberships) {
        RdfsRules x = new RdfsRules(memberships);
        check.due("remove(0, 0, 1)", x.remove(0, 0, 1), 0);
        check.due("remove(9, 4, 3)", x.remove(9, 4, 3), 0);
        check.due("remove(20, 0, 11)", x.remove(20, 0, 11), 0);
        check.due("run()", x.run(), 0);
        check.due("told(0) after run()", x.told(0), 0);
    }

    /** "no rows" */
    private static void noRows(int memberships) {
        RdfsRules x = new RdfsRules(memberships);
        for (int times = 0; times < 2; times++) {
            check.due("told(0)", x.told(0), 0);
            check.due("told(3)", x.told(3), 0);
            check.due("told(4)", x.told(4), 0);
            for (int r = 0; r <= 13; r++) {
                check.due("rule(" + r + ")", x.rule(r), 0);
            }
            check.due("find(0, 0, 0)", x.find(0, 0, 0), -1);
            check.due("find(0, 0, 1)", x.find(0, 0, 1), -1);
            check.dueIllegalArgument("closed(0, 0)", () -> x.closed(0, 0));
            check.dueIllegalArgument("trace(0)", () -> x.trace(0));
            check.dueIllegalArgument("proof(0, 0)", () -> x.proof(0, 0));
            // A closure of nothing has no rows either.
            check.due("run()", x.run(), 0);
        }
    }

    /** "memberships not 0: MEMBERSHIPS belong to the axioms" */
    private static void zeroOrNot(int memberships) {
        RdfsRules x = new RdfsRules(memberships);
        x.axioms(true);
        int want = memberships == 0 ? 0 : 2;
        check.due("remove(20, 0, 11) with " + memberships, x.remove(20, 0, 11), want);
        check.due("remove(28, 7, 2) with " + memberships, x.remove(28, 7, 2), want);
        check.due("remove(28, 7, 3) with " + memberships, x.remove(28, 7, 3), 0);
        x.run();
        check.due("find(28, 7, 2) with " + memberships, x.find(28, 7, 2), memberships == 0 ? -1 : 41);
    }

    /** "as many as nine of them", whatever number was told. */
    private static void nineOfThemBelong() {
        for (int memberships : new int[] {1, 8, 10}) {
            RdfsRules x = new RdfsRules(memberships);
            x.axioms(true);
            for (int m = 20; m <= 28; m++) {
                check.due("remove(" + m + ", 0, 11)", x.remove(m, 0, 11), 2);
                check.due("remove(" + m + ", 6, 2)", x.remove(m, 6, 2), 2);
                check.due("remove(" + m + ", 7, 2)", x.remove(m, 7, 2), 2);
            }
            check.dueIllegalArgument("there is no tenth", () -> x.remove(29, 0, 11));
            check.dueIllegalArgument("19 is none", () -> x.remove(19, 0, 11));
            x.run();
            check.due("the last axiom", x.closed(41, 3), RdfsRules.AXIOM);
            check.due("no axiom behind it", x.closed(42, 3) >= 0);
        }
    }

    /** They belong to the axioms alone: without these they are in no closure. */
    private static void withoutAxiomsTheyAreInNoClosure() {
        RdfsRules x = new RdfsRules(1);
        x.triple(100, 101, 102);
        x.run();
        check.due("find(20, 0, 11)", x.find(20, 0, 11), -1);
        check.due("find(28, 7, 2)", x.find(28, 7, 2), -1);
        check.due("row 0", x.closed(0, 3), RdfsRules.NONE);
    }

    private static void objectsAreApart() {
        RdfsRules x = Samples.full();
        RdfsRules y = new RdfsRules(1);
        for (int what = 0; what <= 4; what++) {
            check.due("told(" + what + ") of a new one", y.told(what), 0);
        }
        y.triple(100, 4, 101);
        y.run();
        check.due("the other's facts stay", x.told(1), 80);
        check.due("the other's first row stays", x.closed(0, 3), RdfsRules.AXIOM);
    }

    /** "An object is used for at most 512 calls": all of them are answered. */
    private static void theLastCallIsAnswered() {
        RdfsRules x = new RdfsRules(1);
        x.axioms(true);
        for (int n = 0; n < 85; n++) {
            check.due("triple", x.triple(100 + n, 4, 101 + n), 1);
            check.due("literal", n < 40 ? x.literal(100 + n) : x.told(2), n < 40 ? 300 + n : 40);
            check.due("run()", x.run(), 2);
            check.due("the rows of it", x.told(0), 123);
            check.due("the given fact's row", x.find(100 + n, 4, 101 + n), 42);
            check.due("remove", x.remove(100 + n, 4, 101 + n), 1);
        }
        check.due("call 512", x.proof(42, 0), 42);
    }
}
