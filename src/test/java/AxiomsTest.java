/** Promise 5: axioms. */
public final class AxiomsTest {
    static final int[][] FIXED = {
        {0, 0, 1}, {0, 6, 2}, {0, 7, 3}, {6, 6, 1}, {6, 7, 3}, {7, 6, 1}, {7, 7, 3}, {5, 6, 1},
        {5, 7, 1}, {4, 6, 3}, {4, 7, 3}, {10, 6, 2}, {10, 7, 2}, {11, 4, 1}, {9, 4, 3},
    };
    private static final Check check = new Check();
    private static final Twins twins = new Twins(check);

    public static void main(String[] args) {
        axiomsAreTheFirstRows();
        fifteenWithoutMemberships();
        givenFactsThatAreAxiomsThere();
        givenMembershipsAtTheCount();
        nothingChangesBeforeRun();
        onAndOff();
        sayingItAgainChangesNothing();
        besideTheFullObject();
        check.end();
    }

    /** "AXIOMS (when they are asked for), in this order", "first the axioms, then the given facts" */
    private static void axiomsAreTheFirstRows() {
        RdfsRules x = new RdfsRules(1);
        x.triple(100, 101, 102);
        x.axioms(true);
        x.run();
        for (int i = 0; i < FIXED.length; i++) {
            check.dueRow(x, i, FIXED[i][0], FIXED[i][1], FIXED[i][2], -2, -1, -1, 0);
        }
        for (int m = 0; m < 9; m++) {
            int row = FIXED.length + 3 * m;
            check.dueRow(x, row, 20 + m, 0, 11, -2, -1, -1, 0);
            check.dueRow(x, row + 1, 20 + m, 6, 2, -2, -1, -1, 0);
            check.dueRow(x, row + 2, 20 + m, 7, 2, -2, -1, -1, 0);
        }
        check.dueRow(x, 42, 100, 101, 102, -1, -1, -1, 0);
        check.due("the first made row's round", x.closed(43, 6), 1);
    }

    private static void fifteenWithoutMemberships() {
        RdfsRules x = new RdfsRules(0);
        x.axioms(true);
        check.due("run()", x.run(), 2);
        check.due("told(0)", x.told(0), 51);
        check.dueRow(x, 14, 9, 4, 3, -2, -1, -1, 0);
        check.due("row 15 is made", x.closed(15, 6), 1);
        check.due("find(20, 0, 11)", x.find(20, 0, 11), -1);
    }

    /** "then the given facts that are no axioms there, in their order": the first and the last axiom. */
    private static void givenFactsThatAreAxiomsThere() {
        RdfsRules x = new RdfsRules(1);
        x.triple(100, 101, 102);
        x.triple(28, 7, 2);
        x.triple(103, 101, 102);
        x.triple(0, 0, 1);
        x.triple(104, 101, 102);
        x.axioms(true);
        x.run();
        check.due("told(1)", x.told(1), 5);
        check.dueRow(x, 0, 0, 0, 1, -2, -1, -1, 0);
        check.dueRow(x, 41, 28, 7, 2, -2, -1, -1, 0);
        check.dueRow(x, 42, 100, 101, 102, -1, -1, -1, 0);
        check.dueRow(x, 43, 103, 101, 102, -1, -1, -1, 0);
        check.dueRow(x, 44, 104, 101, 102, -1, -1, -1, 0);
        check.due("row 45 is made", x.closed(45, 6), 1);
        x.axioms(false);
        x.run();
        check.dueRow(x, 1, 28, 7, 2, -1, -1, -1, 0);
        check.dueRow(x, 3, 0, 0, 1, -1, -1, -1, 0);
        check.due("row 5 is made", x.closed(5, 6), 1);
    }

    /** What is said of a membership beyond the first n is no axiom there, but a given fact. */
    private static void givenMembershipsAtTheCount() {
        RdfsRules x = new RdfsRules(1);
        x.triple(22, 0, 11);
        x.axioms(true);
        x.count(3);
        x.run();
        check.dueRow(x, 21, 22, 0, 11, -2, -1, -1, 0);
        check.due("the row behind the axioms is made", x.closed(24, 6), 1);
        x.count(2);
        x.run();
        check.dueRow(x, 21, 22, 0, 11, -1, -1, -1, 0);
        check.due("the row behind it is made", x.closed(22, 6), 1);
    }

    private static void nothingChangesBeforeRun() {
        RdfsRules x = Samples.smallClosure();
        int rows = x.told(0);
        x.axioms(true);
        check.due("told(0)", x.told(0), rows);
        check.due("row 0", x.closed(0, 3), -1);
        check.due("told(1): axioms are not given", x.told(1), 3);
        check.due("find(0, 6, 2)", x.find(0, 6, 2), -1);
        x.run();
        check.due("find(0, 6, 2) after it", x.find(0, 6, 2), 1);
        x.axioms(false);
        check.due("find(0, 6, 2) when they are off", x.find(0, 6, 2), 1);
    }

    /** "Whether the axioms are asked for." */
    private static void onAndOff() {
        RdfsRules x = new RdfsRules(0);
        x.axioms(true);
        x.axioms(true);
        x.axioms(false);
        check.due("off: run()", x.run(), 0);
        check.due("off: told(0)", x.told(0), 0);
        x.axioms(true);
        x.run();
        check.due("on", x.closed(14, 3), -2);
        check.due("no memberships", x.closed(15, 6), 1);
        x.axioms(false);
        x.axioms(false);
        x.run();
        check.due("off again", x.told(0), 0);
    }

    private static void sayingItAgainChangesNothing() {
        RdfsRules on = Samples.full();
        on.axioms(true);
        twins.compare("on again", on, Samples.full());
        RdfsRules off = Samples.smallClosure();
        off.axioms(false);
        twins.compare("off again", off, Samples.smallClosure());
        RdfsRules both = Samples.smallClosure();
        both.axioms(true);
        both.axioms(false);
        twins.compare("on and off", both, Samples.smallClosure());
    }

    /** All axioms and 80 given facts, the most rows that a closure can begin with. */
    private static void besideTheFullObject() {
        RdfsRules x = new RdfsRules(1);
        for (int n = 0; n < 80; n++) {
            x.triple(100 + n, 0, 2);
        }
        x.axioms(true);
        x.run();
        check.dueRow(x, 41, 28, 7, 2, -2, -1, -1, 0);
        check.dueRow(x, 42, 100, 0, 2, -1, -1, -1, 0);
        check.dueRow(x, 121, 179, 0, 2, -1, -1, -1, 0);
        check.due("row 122 is made", x.closed(122, 6), 1);
    }
}
