/** Promise 12: rule. */
public final class RuleTest {
    private static final Check check = new Check();
    private static final Twins twins = new Twins(check);

    public static void main(String[] args) {
        countsOfASmallClosure();
        theFirstAndTheLastRule();
        countsAreOfTheRows(Samples.smallClosure(), 3);
        countsAreOfTheRows(allAxioms(), 42);
        noneInNothing();
        rulesFromZeroToThirteen();
        theFullClosure();
        countsAreOfTheLatestClosure();
        refusalsChangeNothing();
        check.end();
    }

    private static RdfsRules allAxioms() {
        RdfsRules x = new RdfsRules(1);
        x.axioms(true);
        x.run();
        return x;
    }

    /** "How many rows a rule made." */
    private static void countsOfASmallClosure() {
        RdfsRules x = Samples.smallClosure();
        int[] want = {0, 3, 0, 0, 9, 0, 3, 0, 0, 2, 0, 1, 0, 0};
        for (int r = 0; r < want.length; r++) {
            check.due("rule(" + r + ")", x.rule(r), want[r]);
        }
    }

    private static void theFirstAndTheLastRule() {
        RdfsRules x = Samples.withLiterals(2);
        x.triple(150, 151, 300);
        x.triple(150, 151, 301);
        x.triple(152, 0, 9);
        x.triple(153, 0, 9);
        x.triple(154, 0, 9);
        x.run();
        check.due("rule(0)", x.rule(0), 2);
        check.due("rule(13)", x.rule(13), 3);
        check.due("rule(12)", x.rule(12), 0);
    }

    /** Neither axioms nor given facts are a rule's. */
    private static void countsAreOfTheRows(RdfsRules x, int notMade) {
        int rows = x.told(0);
        int[] made = new int[14];
        for (int row = notMade; row < rows; row++) {
            made[x.closed(row, 3)]++;
        }
        int all = 0;
        for (int r = 0; r <= 13; r++) {
            check.due("rule(" + r + ") by the rows", x.rule(r), made[r]);
            all += x.rule(r);
        }
        check.due("all rules", all, rows - notMade);
    }

    private static void noneInNothing() {
        RdfsRules x = new RdfsRules(1);
        for (int times = 0; times < 2; times++) {
            for (int r = 0; r <= 13; r++) {
                check.due("rule(" + r + ")", x.rule(r), 0);
            }
            x.run();
        }
        RdfsRules y = Samples.withFacts(80);
        check.due("rule(1) before run()", y.rule(1), 0);
        check.due("rule(4) before run()", y.rule(4), 0);
        y.run();
        check.due("rule(4) after run()", y.rule(4), 85);
    }

    /** "IllegalArgumentException: there is no such .. rule" */
    private static void rulesFromZeroToThirteen() {
        RdfsRules[] objects = {new RdfsRules(0), Samples.smallClosure(), Samples.full()};
        for (RdfsRules x : objects) {
            for (int r : new int[] {Integer.MIN_VALUE, -2, -1, 14, 15, Integer.MAX_VALUE}) {
                check.dueIllegalArgument("rule(" + r + ")", () -> x.rule(r));
            }
            check.dueThrow("rule(0)", null, () -> x.rule(0));
            check.dueThrow("rule(13)", null, () -> x.rule(13));
        }
    }

    /** Of 600 rows the last one is counted, too. */
    private static void theFullClosure() {
        RdfsRules x = Samples.closingTo(600);
        x.run();
        check.due("rule(11): 33 classes in a chain but for what is given", x.rule(11), 33 * 32 / 2 - 32);
        int all = 0;
        for (int r = 0; r <= 13; r++) {
            all += x.rule(r);
        }
        check.due("all rules", all, 600 - x.told(1));
    }

    private static void countsAreOfTheLatestClosure() {
        RdfsRules x = Samples.afterRefusedRun();
        check.due("rule(11) after a refused run", x.rule(11), 1);
        check.due("rule(4) after a refused run", x.rule(4), 9);
        RdfsRules y = new RdfsRules(1);
        y.axioms(true);
        y.count(2);
        y.run();
        check.due("rule(12) of two memberships", y.rule(12), 2);
        y.count(0);
        check.due("rule(12) before run()", y.rule(12), 2);
        y.run();
        check.due("rule(12) of none", y.rule(12), 0);
    }

    private static void refusalsChangeNothing() {
        twins.dueIllegalArgument("rule(-1)", Samples::smallClosure, x -> x.rule(-1));
        twins.dueIllegalArgument("rule(14)", Samples::smallClosure, x -> x.rule(14));
        twins.dueIdle("rule(11)", Samples::smallClosure, 1, x -> x.rule(11));
    }
}
