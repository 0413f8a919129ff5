/** Promise 6: count. */
public final class CountTest {
    private static final Check check = new Check();
    private static final Twins twins = new Twins(check);

    public static void main(String[] args) {
        eachCountSetsTheAxioms();
        theFirstAreTaken();
        nineUnlessItIsTold();
        toldBeforeTheAxiomsAreAskedFor();
        withoutMembershipsItChangesNothing();
        zeroAndNineAreTheEnds();
        aRefusedNumberLeavesTheFormer();
        theLatestClosureStays();
        refusalsChangeNothing();
        check.end();
    }

    /** "How many MEMBERSHIPS there are in the axioms.", up and down. */
    private static void eachCountSetsTheAxioms() {
        for (int n = 9; n >= 0; n--) {
            RdfsRules x = new RdfsRules(1);
            x.axioms(true);
            x.count(10 - Math.max(n, 1));
            x.count(n);
            x.run();
            check.due("axioms with " + n, axiomRows(x), 15 + 3 * n);
            check.due("the last with " + n, x.find(19 + n, 7, 2), n == 0 ? -1 : 14 + 3 * n);
        }
    }

    private static int axiomRows(RdfsRules x) {
        int all = x.told(0);
        int rows = 0;
        while (rows < all && x.closed(rows, 3) == RdfsRules.AXIOM) {
            rows++;
        }
        return rows;
    }

    /** "for each of the first n MEMBERSHIPS": the n-th is in the closure, the next is not. */
    private static void theFirstAreTaken() {
        RdfsRules x = new RdfsRules(1);
        x.axioms(true);
        for (int n = 0; n <= 9; n++) {
            x.count(n);
            x.run();
            for (int m = 20; m <= 28; m++) {
                int row = m - 20 < n ? 15 + 3 * (m - 20) : -1;
                check.due("find(" + m + ", 0, 11) of " + n, x.find(m, 0, 11), row);
                check.due("find(" + m + ", 7, 2) of " + n, x.find(m, 7, 2), row == -1 ? -1 : row + 2);
            }
        }
    }

    private static void nineUnlessItIsTold() {
        RdfsRules x = new RdfsRules(1);
        x.axioms(true);
        x.run();
        check.due("axioms", axiomRows(x), 42);
        RdfsRules nine = new RdfsRules(1);
        nine.count(9);
        twins.compare("count(9)", nine, new RdfsRules(1));
    }

    /** The number is kept while the axioms are off, and when they are asked for again. */
    private static void toldBeforeTheAxiomsAreAskedFor() {
        RdfsRules x = new RdfsRules(1);
        x.count(2);
        check.due("none without axioms", x.remove(20, 0, 11), 0);
        x.run();
        check.due("no rows without axioms", x.told(0), 0);
        x.axioms(true);
        check.due("the second is in", x.remove(21, 0, 11), 2);
        check.due("the third is not", x.remove(22, 0, 11), 0);
        x.axioms(false);
        x.axioms(true);
        check.due("the second is still in", x.remove(21, 0, 11), 2);
        check.due("the third is still not", x.remove(22, 0, 11), 0);
    }

    /** "then, if this was told at the beginning": else no number brings memberships in. */
    private static void withoutMembershipsItChangesNothing() {
        for (int n = 0; n <= 9; n++) {
            RdfsRules x = new RdfsRules(0);
            x.axioms(true);
            x.count(n);
            check.due("remove(20, 0, 11)", x.remove(20, 0, 11), 0);
            x.run();
            check.due("axioms", axiomRows(x), 15);
            check.due("find(20, 0, 11)", x.find(20, 0, 11), -1);
            RdfsRules counted = withAxiomsAlone();
            counted.count(n);
            twins.compare("count(" + n + ") without memberships", counted, withAxiomsAlone());
        }
    }

    private static RdfsRules withAxiomsAlone() {
        RdfsRules x = new RdfsRules(0);
        x.axioms(true);
        return x;
    }

    /** "IllegalArgumentException: not 0 .. 9." */
    private static void zeroAndNineAreTheEnds() {
        for (int memberships = 0; memberships <= 1; memberships++) {
            RdfsRules x = new RdfsRules(memberships);
            int[] wrong = {Integer.MIN_VALUE, -9, -1, 10, 20, 28, Integer.MAX_VALUE};
            for (int n : wrong) {
                check.dueIllegalArgument("count(" + n + ")", () -> x.count(n));
            }
            for (int n = 0; n <= 9; n++) {
                int taken = n;
                check.dueThrow("count(" + n + ")", null, () -> x.count(taken));
            }
            x.axioms(true);
            check.dueIllegalArgument("count(-1) with axioms", () -> x.count(-1));
            check.dueIllegalArgument("count(10) with axioms", () -> x.count(10));
        }
    }

    private static void aRefusedNumberLeavesTheFormer() {
        for (int n = 0; n <= 9; n++) {
            RdfsRules x = new RdfsRules(1);
            x.axioms(true);
            x.count(n);
            check.dueIllegalArgument("count(-1)", () -> x.count(-1));
            check.dueIllegalArgument("count(10)", () -> x.count(10));
            check.due("the last is in", n == 0 || x.remove(19 + n, 0, 11) == 2);
            check.due("the next is not", n == 9 || x.remove(20 + n, 0, 11) == 0);
            x.run();
            check.due("axioms", axiomRows(x), 15 + 3 * n);
        }
    }

    private static void theLatestClosureStays() {
        RdfsRules x = new RdfsRules(1);
        x.axioms(true);
        x.run();
        int rows = x.told(0);
        x.count(0);
        check.due("told(0)", x.told(0), rows);
        check.due("find(28, 7, 2)", x.find(28, 7, 2), 41);
        x.run();
        check.due("find(28, 7, 2) after run()", x.find(28, 7, 2), -1);
        x.count(9);
        check.due("find(28, 7, 2) before the next", x.find(28, 7, 2), -1);
    }

    private static void refusalsChangeNothing() {
        for (int n : new int[] {-1, 10}) {
            twins.dueIllegalArgument("count(" + n + ") of a new one", () -> new RdfsRules(1), x -> x.count(n));
            twins.dueIllegalArgument("count(" + n + ") without memberships", () -> new RdfsRules(0), x -> x.count(n));
            twins.dueIllegalArgument("count(" + n + ") of a full one", Samples::full, x -> x.count(n));
        }
    }
}
