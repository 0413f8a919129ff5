/** Promise 10: trace. */
public final class TraceTest {
    private static final Check check = new Check();
    private static final Twins twins = new Twins(check);

    public static void main(String[] args) {
        givenFactsAndAxiomsRestOnThemselves();
        theWholeWayIsCounted();
        aRowIsCountedOnce();
        rowsFromZeroToTheLast();
        noRowInNothing();
        noRowOfAFormerClosure();
        theSixHundredthRow();
        ofTheLatestClosure();
        refusalsChangeNothing();
        check.end();
    }

    /** "What a row RESTS on: itself": the fewest. */
    private static void givenFactsAndAxiomsRestOnThemselves() {
        RdfsRules x = Samples.smallClosure();
        check.due("the first given fact", x.trace(0), 1);
        check.due("the last given fact", x.trace(2), 1);
        x.axioms(true);
        x.run();
        check.due("the first axiom", x.trace(0), 1);
        check.due("the last axiom", x.trace(41), 1);
        check.due("the last given fact behind them", x.trace(44), 1);
        check.due("the first that is made", x.trace(45) > 1);
    }

    /** "and what those that made it rest on" */
    private static void theWholeWayIsCounted() {
        RdfsRules x = Samples.smallClosure();
        check.due("of one fact", x.trace(5), 2);
        check.due("of two facts", x.trace(9), 3);
        check.due("of the second fact", x.trace(10), 3);
        // Of (101 4 102) in row 1 and (110 0 101) in row 9, before (100 4 102) in row 10 has its turn.
        check.due("find(110, 0, 102)", x.find(110, 0, 102), 17);
        check.due("of one that was made", x.trace(17), 5);
        check.due("of four rounds", x.trace(20), 5);
    }

    /** A row that is met twice on the way is one. */
    private static void aRowIsCountedOnce() {
        RdfsRules x = new RdfsRules(0);
        x.triple(6, 6, 110);
        x.run();
        int row = x.find(6, 0, 110);
        check.due("both facts are one", x.closed(row, 4) == 0 && x.closed(row, 5) == 0);
        check.due("trace", x.trace(row), 2);
    }

    /** "IllegalArgumentException: there is no such .. row" */
    private static void rowsFromZeroToTheLast() {
        RdfsRules x = Samples.smallClosure();
        check.due("the first", x.trace(0), 1);
        check.due("the last", x.trace(20), 5);
        for (int i : new int[] {Integer.MIN_VALUE, -2, -1, 21, 22, 599, 600, Integer.MAX_VALUE}) {
            check.dueIllegalArgument("trace(" + i + ")", () -> x.trace(i));
        }
    }

    private static void noRowInNothing() {
        RdfsRules x = new RdfsRules(1);
        check.dueIllegalArgument("trace(0) of a new object", () -> x.trace(0));
        x.run();
        check.dueIllegalArgument("trace(0) of no rows", () -> x.trace(0));
        RdfsRules y = Samples.withFacts(1);
        check.dueIllegalArgument("trace(0) before run()", () -> y.trace(0));
        y.run();
        check.due("trace(0) after run()", y.trace(0), 1);
    }

    private static void noRowOfAFormerClosure() {
        RdfsRules x = Samples.smallClosure();
        x.run();
        x.remove(110, 0, 100);
        x.remove(101, 4, 102);
        x.run();
        int rows = x.told(0);
        check.due("the last", x.trace(rows - 1) > 1);
        check.dueIllegalArgument("the next", () -> x.trace(rows));
        check.dueIllegalArgument("the former last", () -> x.trace(20));
    }

    /** The whole chain of 32 subclasses, two by two: 32 given facts and 31 that were made. */
    private static void theSixHundredthRow() {
        RdfsRules x = Samples.closingTo(600);
        x.run();
        check.due("row 599", x.trace(599), 63);
        check.due("row 0 afterwards", x.trace(0), 1);
        check.due("row 599 again", x.trace(599), 63);
        check.dueIllegalArgument("row 600", () -> x.trace(600));
    }

    private static void ofTheLatestClosure() {
        RdfsRules x = Samples.smallClosure();
        x.remove(100, 4, 101);
        check.due("before run()", x.trace(17), 5);
        RdfsRules y = Samples.afterRefusedRun();
        check.due("after a refused run", y.trace(17), 5);
        check.dueIllegalArgument("no more rows after it", () -> y.trace(21));
    }

    private static void refusalsChangeNothing() {
        twins.dueIllegalArgument("trace(-1)", Samples::smallClosure, x -> x.trace(-1));
        twins.dueIllegalArgument("trace(21)", Samples::smallClosure, x -> x.trace(21));
        twins.dueIdle("trace(20)", Samples::smallClosure, 5, x -> x.trace(20));
    }
}
