/** Promise 5: axioms. */
public final class AxiomsTest {
    private static final Check check = new Check();
    private static final int[][] FIXED = {
        {0, 0, 1}, {0, 6, 2}, {0, 7, 3}, {6, 6, 1}, {6, 7, 3}, {7, 6, 1}, {7, 7, 3}, {5, 6, 1},
        {5, 7, 1}, {4, 6, 3}, {4, 7, 3}, {10, 6, 2}, {10, 7, 2}, {11, 4, 1}, {9, 4, 3},
    };

    public static void main(String[] args) {
        axiomsAreTheFirstRows();
        nothingChangesBeforeRun();
        onAndOff();
        check.end();
    }

    private static void axiomsAreTheFirstRows() {
        RdfsRules x = new RdfsRules(1);
        x.triple(100, 101, 102);
        x.axioms(true);
        x.run();
        for (int i = 0; i < FIXED.length; i++) {
            check.dueRow(x, i, FIXED[i][0], FIXED[i][1], FIXED[i][2], -2, -1, -1, 0);
        }
        for (int m = 0; m < 9; m++) {
            int row = FIXED.length + 3 * m;
            check.dueRow(x, row, 20 + m, 0, 11, -2, -1, -1, 0);
            check.dueRow(x, row + 1, 20 + m, 6, 2, -2, -1, -1, 0);
            check.dueRow(x, row + 2, 20 + m, 7, 2, -2, -1, -1, 0);
        }
        check.dueRow(x, 42, 100, 101, 102, -1, -1, -1, 0);
        check.due("the first made row's round", x.closed(43, 6), 1);
    }

    private static void nothingChangesBeforeRun() {
        RdfsRules x = Samples.smallClosure();
        int rows = x.told(0);
        x.axioms(true);
        check.due("told(0)", x.told(0), rows);
        check.due("row 0", x.closed(0, 3), -1);
        check.due("told(1): axioms are not given", x.told(1), 3);
    }

    private static void onAndOff() {
        RdfsRules x = new RdfsRules(0);
        x.axioms(true);
        x.axioms(true);
        x.axioms(false);
        check.due("off: run()", x.run(), 0);
        check.due("off: told(0)", x.told(0), 0);
        x.axioms(true);
        x.run();
        check.due("on", x.closed(14, 3), -2);
        check.due("no memberships", x.closed(15, 6), 1);
        x.axioms(false);
        x.run();
        check.due("off again", x.told(0), 0);
    }
}
