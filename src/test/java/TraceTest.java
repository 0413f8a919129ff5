/** Promises 10 and 11: trace and proof. */
public final class TraceTest {
    private static final Check check = new Check();

    public static void main(String[] args) {
        givenFactsRestOnThemselves();
        theWholeWayIsTold();
        aRowIsToldOnce();
        wrongNumbers();
        check.end();
    }

    private static void givenFactsRestOnThemselves() {
        RdfsRules x = Samples.smallClosure();
        dueRest(x, 0, 0);
        dueRest(x, 2, 2);
        x.axioms(true);
        x.run();
        dueRest(x, 41, 41);
    }

    private static void theWholeWayIsTold() {
        RdfsRules x = Samples.smallClosure();
        dueRest(x, 5, 0, 5);
        dueRest(x, 9, 0, 2, 9);
        dueRest(x, 10, 0, 1, 10);
        check.due("find(110, 0, 102)", x.find(110, 0, 102), 17);
        // Of (101 4 102) in row 1 and (110 0 101) in row 9, before (100 4 102) in row 10 has its turn.
        dueRest(x, 17, 0, 1, 2, 9, 17);
    }

    private static void aRowIsToldOnce() {
        RdfsRules x = new RdfsRules(0);
        x.triple(6, 6, 110);
        x.run();
        int row = x.find(6, 0, 110);
        check.due("both facts are one", x.closed(row, 4) == 0 && x.closed(row, 5) == 0);
        dueRest(x, row, 0, row);
    }

    private static void dueRest(RdfsRules x, int row, int... want) {
        check.due("trace(" + row + ")", x.trace(row), want.length);
        for (int k = 0; k < want.length; k++) {
            check.due("proof(" + row + ", " + k + ")", x.proof(row, k), want[k]);
        }
        int[] beyond = {want.length, want.length + 1, 600, Integer.MAX_VALUE, -1, Integer.MIN_VALUE};
        for (int k : beyond) {
            check.due("proof(" + row + ", " + k + ")", x.proof(row, k), -1);
        }
    }

    private static void wrongNumbers() {
        RdfsRules empty = new RdfsRules(1);
        check.dueIllegalArgument("trace(0) of nothing", () -> empty.trace(0));
        check.dueIllegalArgument("proof(0, 0) of nothing", () -> empty.proof(0, 0));
        RdfsRules x = Samples.smallClosure();
        int[] wrong = {-1, x.told(0), 600, Integer.MIN_VALUE, Integer.MAX_VALUE};
        for (int i : wrong) {
            check.dueIllegalArgument("trace(" + i + ")", () -> x.trace(i));
            check.dueIllegalArgument("proof(" + i + ", 0)", () -> x.proof(i, 0));
            check.dueIllegalArgument("proof(" + i + ", -1)", () -> x.proof(i, -1));
        }
    }
}
