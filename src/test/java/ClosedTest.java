/** Promise 8: closed. */
public final class ClosedTest {
    private static final Check check = new Check();

    public static void main(String[] args) {
        RdfsRules x = Samples.smallClosure();
        check.dueRow(x, 0, 100, 4, 101, -1, -1, -1, 0);
        check.dueRow(x, 3, 4, 0, 1, 1, 0, -1, 1);
        check.dueRow(x, 9, 110, 0, 101, 9, 0, 2, 1);
        check.dueRow(x, 10, 100, 4, 102, 11, 0, 1, 1);
        axiomsAreMarked();
        wrongNumbersAreRefused(x);
        check.dueIllegalArgument("before run()", () -> new RdfsRules(1).closed(0, 0));
        check.end();
    }

    private static void axiomsAreMarked() {
        RdfsRules x = new RdfsRules(1);
        x.axioms(true);
        x.run();
        check.dueRow(x, 41, 28, 7, 2, -2, -1, -1, 0);
        x.axioms(false);
        check.dueRow(x, 41, 28, 7, 2, -2, -1, -1, 0);
    }

    private static void wrongNumbersAreRefused(RdfsRules x) {
        int rows = x.told(0);
        int[] wrongRows = {-1, -2, rows, rows + 1, 600, Integer.MIN_VALUE, Integer.MAX_VALUE};
        for (int i : wrongRows) {
            check.dueIllegalArgument("row " + i, () -> x.closed(i, 0));
        }
        int[] wrongParts = {-1, 7, Integer.MIN_VALUE, Integer.MAX_VALUE};
        for (int what : wrongParts) {
            check.dueIllegalArgument("part " + what, () -> x.closed(0, what));
        }
        check.due("the last row is one", x.closed(rows - 1, 6) > 0);
    }
}
