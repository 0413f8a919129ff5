/** Promise 13: told. */
public final class ToldTest {
    private static final Check check = new Check();

    public static void main(String[] args) {
        rowsFactsAndLiterals();
        literalSubjects();
        membershipsBeyondTheAxioms();
        membershipsOfThatClosure();
        wrongNumbersAreRefused();
        check.end();
    }

    private static void rowsFactsAndLiterals() {
        RdfsRules x = Samples.smallClosure();
        check.due("told(0)", x.told(0), 21);
        check.due("told(1)", x.told(1), 3);
        check.due("told(2)", x.told(2), 0);
        x.literal(100);
        x.triple(100, 101, 300);
        check.due("told(0) before run()", x.told(0), 21);
        check.due("told(1) at once", x.told(1), 4);
        check.due("told(2) at once", x.told(2), 1);
    }

    private static void literalSubjects() {
        RdfsRules x = Samples.withLiterals(3);
        x.triple(150, 151, 300);
        x.triple(150, 151, 301);
        check.due("told(3) before run()", x.told(3), 0);
        x.run();
        check.due("told(3): type and resource of two", x.told(3), 4);
    }

    private static RdfsRules withMembershipFacts(int memberships) {
        RdfsRules x = new RdfsRules(memberships);
        x.triple(100, 20, 101);
        x.triple(100, 22, 101);
        x.triple(100, 28, 101);
        x.triple(22, 100, 22);
        return x;
    }

    private static void membershipsBeyondTheAxioms() {
        int[] wantByCount = {3, 2, 2, 1, 1, 1, 1, 1, 1, 0};
        for (int n = 0; n <= 9; n++) {
            RdfsRules x = withMembershipFacts(1);
            x.count(n);
            check.due("told(4) before run()", x.told(4), 0);
            x.run();
            check.due("told(4) without axioms", x.told(4), 3);
            x.axioms(true);
            x.run();
            check.due("told(4) with " + n, x.told(4), wantByCount[n]);
            RdfsRules y = withMembershipFacts(0);
            y.axioms(true);
            y.count(n);
            y.run();
            check.due("told(4) when they do not belong", y.told(4), 3);
        }
    }

    private static void membershipsOfThatClosure() {
        RdfsRules x = withMembershipFacts(1);
        x.axioms(true);
        x.count(1);
        x.run();
        x.count(9);
        x.axioms(false);
        check.due("told(4) before the next run()", x.told(4), 2);
        Samples.giveTooMuch(x);
        check.dueThrow("run()", UnsupportedOperationException.class, x::run);
        check.due("told(4) after a run that threw", x.told(4), 2);
    }

    private static void wrongNumbersAreRefused() {
        RdfsRules x = Samples.smallClosure();
        int[] wrong = {-1, 5, Integer.MIN_VALUE, Integer.MAX_VALUE};
        for (int what : wrong) {
            check.dueIllegalArgument("told(" + what + ")", () -> x.told(what));
        }
    }
}
