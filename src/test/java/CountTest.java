/** Promise 6: count. */
public final class CountTest {
    private static final Check check = new Check();

    public static void main(String[] args) {
        eachCountSetsTheAxioms();
        withoutMembershipsItChangesNothing();
        wrongNumbersAreRefused();
        theLatestClosureStays();
        check.end();
    }

    private static void eachCountSetsTheAxioms() {
        for (int n = 9; n >= 0; n--) {
            RdfsRules x = new RdfsRules(1);
            x.axioms(true);
            x.count(10 - Math.max(n, 1));
            x.count(n);
            x.run();
            check.due("axioms with " + n, axiomRows(x), 15 + 3 * n);
            check.due("the last with " + n, x.find(19 + n, 7, 2), n == 0 ? -1 : 14 + 3 * n);
        }
    }

    private static int axiomRows(RdfsRules x) {
        int all = x.told(0);
        int rows = 0;
        while (rows < all && x.closed(rows, 3) == RdfsRules.AXIOM) {
            rows++;
        }
        return rows;
    }

    private static void withoutMembershipsItChangesNothing() {
        RdfsRules x = new RdfsRules(0);
        x.axioms(true);
        x.count(5);
        check.due("remove(20, 0, 11)", x.remove(20, 0, 11), 0);
        x.run();
        check.due("axioms", axiomRows(x), 15);
    }

    private static void wrongNumbersAreRefused() {
        RdfsRules x = new RdfsRules(1);
        x.axioms(true);
        x.count(3);
        int[] wrong = {-1, 10, Integer.MIN_VALUE, Integer.MAX_VALUE};
        for (int n : wrong) {
            check.dueIllegalArgument("count(" + n + ")", () -> x.count(n));
        }
        check.due("the third is in", x.remove(22, 0, 11), 2);
        check.due("the fourth is not", x.remove(23, 0, 11), 0);
    }

    private static void theLatestClosureStays() {
        RdfsRules x = new RdfsRules(1);
        x.axioms(true);
        x.run();
        int rows = x.told(0);
        x.count(0);
        check.due("told(0)", x.told(0), rows);
        check.due("find(28, 7, 2)", x.find(28, 7, 2), 41);
    }
}
