/** Promise 12: rule. */
public final class RuleTest {
    private static final Check check = new Check();

    public static void main(String[] args) {
        RdfsRules x = Samples.smallClosure();
        int[] want = {0, 3, 0, 0, 9, 0, 3, 0, 0, 2, 0, 1, 0, 0};
        for (int r = 0; r < want.length; r++) {
            check.due("rule(" + r + ")", x.rule(r), want[r]);
        }
        countsAreOfTheRows(x);
        countsAreOfTheLatestClosure(x);
        wrongNumbersAreRefused(x);
        check.end();
    }

    private static void countsAreOfTheRows(RdfsRules x) {
        int rows = x.told(0);
        int[] made = new int[14];
        for (int row = x.told(1); row < rows; row++) {
            made[x.closed(row, 3)]++;
        }
        for (int r = 0; r <= 13; r++) {
            check.due("rule(" + r + ") by the rows", x.rule(r), made[r]);
        }
    }

    private static void countsAreOfTheLatestClosure(RdfsRules x) {
        Samples.giveTooMuch(x);
        check.dueThrow("run()", UnsupportedOperationException.class, x::run);
        check.due("rule(11) after a run that threw", x.rule(11), 1);
        RdfsRules y = new RdfsRules(1);
        y.axioms(true);
        y.count(2);
        y.run();
        check.due("rule(12) of two memberships", y.rule(12), 2);
        y.count(0);
        check.due("rule(12) before run()", y.rule(12), 2);
        y.run();
        check.due("rule(12) of none", y.rule(12), 0);
    }

    private static void wrongNumbersAreRefused(RdfsRules x) {
        int[] wrong = {-1, -2, 14, Integer.MIN_VALUE, Integer.MAX_VALUE};
        for (int r : wrong) {
            check.dueIllegalArgument("rule(" + r + ")", () -> x.rule(r));
        }
    }
}
