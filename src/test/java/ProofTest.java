/** Promise 11: proof. */
public final class ProofTest {
    private static final Check check = new Check();
    private static final Twins twins = new Twins(check);

    public static void main(String[] args) {
        ofGivenFactsAndAxioms();
        rising();
        aRowIsToldOnce();
        notSoMany();
        rowsFromZeroToTheLast();
        noRowInNothing();
        noRowOfAFormerClosure();
        theSixHundredthRow();
        ofTheLatestClosure();
        refusalsChangeNothing();
        check.end();
    }

    private static void dueRest(RdfsRules x, int row, int... want) {
        check.due("trace(" + row + ")", x.trace(row), want.length);
        for (int k = 0; k < want.length; k++) {
            check.due("proof(" + row + ", " + k + ")", x.proof(row, k), want[k]);
        }
        check.due("proof(" + row + ", " + want.length + ")", x.proof(row, want.length), RdfsRules.NONE);
    }

    private static void ofGivenFactsAndAxioms() {
        RdfsRules x = Samples.smallClosure();
        dueRest(x, 0, 0);
        dueRest(x, 2, 2);
        x.axioms(true);
        x.run();
        dueRest(x, 0, 0);
        dueRest(x, 41, 41);
        dueRest(x, 44, 44);
    }

    /** "The k-th of these, from 0, rising": the last is the row itself. */
    private static void rising() {
        RdfsRules x = Samples.smallClosure();
        dueRest(x, 5, 0, 5);
        dueRest(x, 9, 0, 2, 9);
        dueRest(x, 10, 0, 1, 10);
        dueRest(x, 17, 0, 1, 2, 9, 17);
        dueRest(x, 20, 0, 3, 15, 18, 20);
        RdfsRules y = new RdfsRules(0);
        y.triple(120, 0, 110);
        y.triple(110, 4, 111);
        y.run();
        int row = y.find(120, 0, 111);
        check.due("the first fact has the higher row", y.closed(row, 4) > y.closed(row, 5));
        dueRest(y, row, 0, 1, row);
    }

    private static void aRowIsToldOnce() {
        RdfsRules x = new RdfsRules(0);
        x.triple(6, 6, 110);
        x.run();
        int row = x.find(6, 0, 110);
        dueRest(x, row, 0, row);
    }

    /** "NONE if there are not so many": just behind the last, far behind it, and before the first. */
    private static void notSoMany() {
        RdfsRules x = Samples.smallClosure();
        check.due("the last", x.proof(17, 4), 17);
        for (int k : new int[] {5, 6, 17, 21, 600, Integer.MAX_VALUE, -1, -2, Integer.MIN_VALUE}) {
            check.due("proof(17, " + k + ")", x.proof(17, k), RdfsRules.NONE);
        }
        check.due("of a given fact the first", x.proof(2, 0), 2);
        check.due("and no second", x.proof(2, 1), RdfsRules.NONE);
        check.due("and none before", x.proof(2, -1), RdfsRules.NONE);
    }

    /** "IllegalArgumentException: there is no row i", whatever k is. */
    private static void rowsFromZeroToTheLast() {
        RdfsRules x = Samples.smallClosure();
        check.due("the first", x.proof(0, 0), 0);
        check.due("the last", x.proof(20, 0), 0);
        for (int i : new int[] {Integer.MIN_VALUE, -2, -1, 21, 22, 599, 600, Integer.MAX_VALUE}) {
            for (int k : new int[] {0, -1, 600, Integer.MIN_VALUE, Integer.MAX_VALUE}) {
                check.dueIllegalArgument("proof(" + i + ", " + k + ")", () -> x.proof(i, k));
            }
        }
    }

    private static void noRowInNothing() {
        RdfsRules x = new RdfsRules(1);
        check.dueIllegalArgument("proof(0, 0) of a new object", () -> x.proof(0, 0));
        x.run();
        check.dueIllegalArgument("proof(0, 0) of no rows", () -> x.proof(0, 0));
        RdfsRules y = Samples.withFacts(1);
        check.dueIllegalArgument("proof(0, 0) before run()", () -> y.proof(0, 0));
        y.run();
        check.due("proof(0, 0) after run()", y.proof(0, 0), 0);
    }

    private static void noRowOfAFormerClosure() {
        RdfsRules x = Samples.smallClosure();
        x.run();
        x.remove(110, 0, 100);
        x.remove(101, 4, 102);
        x.run();
        int rows = x.told(0);
        check.due("the last", x.proof(rows - 1, 0), 0);
        check.dueIllegalArgument("the next", () -> x.proof(rows, 0));
        check.dueIllegalArgument("the former last", () -> x.proof(20, 0));
    }

    /** 32 given facts of the chain first, then what was made of them, row 599 itself as the 63rd. */
    private static void theSixHundredthRow() {
        RdfsRules x = Samples.closingTo(600);
        x.run();
        for (int k = 0; k < 32; k++) {
            check.due("proof(599, " + k + ")", x.proof(599, k), k);
        }
        for (int k = 32; k < 63; k++) {
            int before = x.proof(599, k - 1);
            check.due("proof(599, " + k + ") rises", x.proof(599, k) > before);
        }
        check.due("the last", x.proof(599, 62), 599);
        check.due("not so many", x.proof(599, 63), RdfsRules.NONE);
        check.due("row 0 afterwards", x.proof(0, 1), RdfsRules.NONE);
        check.dueIllegalArgument("row 600", () -> x.proof(600, 0));
    }

    private static void ofTheLatestClosure() {
        RdfsRules x = Samples.smallClosure();
        x.remove(100, 4, 101);
        dueRest(x, 17, 0, 1, 2, 9, 17);
        RdfsRules y = Samples.afterRefusedRun();
        dueRest(y, 17, 0, 1, 2, 9, 17);
        check.dueIllegalArgument("no more rows after a refused run", () -> y.proof(21, 0));
    }

    private static void refusalsChangeNothing() {
        twins.dueIllegalArgument("proof(-1, 0)", Samples::smallClosure, x -> x.proof(-1, 0));
        twins.dueIllegalArgument("proof(21, 0)", Samples::smallClosure, x -> x.proof(21, 0));
        twins.dueIdle("proof(20, 4)", Samples::smallClosure, 20, x -> x.proof(20, 4));
        twins.dueIdle("proof(20, 5)", Samples::smallClosure, -1, x -> x.proof(20, 5));
        twins.dueIdle("proof(20, -1)", Samples::smallClosure, -1, x -> x.proof(20, -1));
    }
}
