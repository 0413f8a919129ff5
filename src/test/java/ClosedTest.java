/** Promise 8: closed. */
public final class ClosedTest {
    private static final Check check = new Check();
    private static final Twins twins = new Twins(check);

    public static void main(String[] args) {
        sevenParts();
        givenFactsAndAxiomsAreMarked();
        factsThatMadeIt();
        theRound();
        rowsFromZeroToTheLast();
        partsFromZeroToSix();
        bothWrong();
        noRowBeforeRun();
        noRowOfAFormerClosure();
        theSixHundredthRow();
        ofTheLatestClosure();
        refusalsChangeNothing();
        check.end();
    }

    private static void sevenParts() {
        RdfsRules x = Samples.smallClosure();
        check.dueRow(x, 0, 100, 4, 101, -1, -1, -1, 0);
        check.dueRow(x, 3, 4, 0, 1, 1, 0, -1, 1);
        check.dueRow(x, 9, 110, 0, 101, 9, 0, 2, 1);
        check.dueRow(x, 10, 100, 4, 102, 11, 0, 1, 1);
    }

    /** "NONE for a given fact, AXIOM for an axiom": the last of the one, the first of the other. */
    private static void givenFactsAndAxiomsAreMarked() {
        RdfsRules x = new RdfsRules(1);
        x.triple(100, 101, 102);
        x.axioms(true);
        x.run();
        check.due("the first axiom", x.closed(0, 3), RdfsRules.AXIOM);
        check.due("the last axiom", x.closed(41, 3), RdfsRules.AXIOM);
        check.due("the given fact", x.closed(42, 3), RdfsRules.NONE);
        check.due("the first that is made", x.closed(43, 3), 1);
        x.axioms(false);
        check.dueRow(x, 41, 28, 7, 2, -2, -1, -1, 0);
        RdfsRules y = new RdfsRules(0);
        y.literal(110);
        y.triple(100, 101, 300);
        y.run();
        check.due("rule 0 is a rule", y.closed(1, 3), 0);
    }

    /** "the first and the second fact's rows (4, 5; NONE without them)": none, one and two. */
    private static void factsThatMadeIt() {
        RdfsRules x = Samples.smallClosure();
        check.due("no first", x.closed(0, 4), RdfsRules.NONE);
        check.due("no second", x.closed(0, 5), RdfsRules.NONE);
        check.due("row 0 as first", x.closed(3, 4), 0);
        check.due("no second of one", x.closed(3, 5), RdfsRules.NONE);
        check.due("a first of two", x.closed(9, 4), 0);
        check.due("a second of two", x.closed(9, 5), 2);
        RdfsRules y = new RdfsRules(0);
        y.triple(6, 6, 110);
        y.run();
        check.due("row 0 as second", y.closed(y.find(6, 0, 110), 5), 0);
    }

    /** "the round, 1 for the first, 0 for none" */
    private static void theRound() {
        RdfsRules x = Samples.smallClosure();
        int[] rounds = {0, 0, 0, 1, 1, 1, 1, 1, 1, 1, 1, 2, 2, 2, 2, 2, 2, 2, 3, 4, 4};
        for (int row = 0; row < rounds.length; row++) {
            check.due("the round of row " + row, x.closed(row, 6), rounds[row]);
        }
        RdfsRules y = new RdfsRules(0);
        y.axioms(true);
        y.run();
        check.due("the round of an axiom", y.closed(14, 6), 0);
        check.due("the round of what follows", y.closed(15, 6), 1);
    }

    /** "IllegalArgumentException: there is no such .. row" */
    private static void rowsFromZeroToTheLast() {
        RdfsRules x = Samples.smallClosure();
        check.due("the first", x.closed(0, 0), 100);
        check.due("the last", x.closed(20, 0), 5);
        int[] wrongRows = {Integer.MIN_VALUE, -2, -1, 21, 22, 599, 600, Integer.MAX_VALUE};
        for (int i : wrongRows) {
            for (int what = 0; what <= 6; what++) {
                int part = what;
                check.dueIllegalArgument("row " + i, () -> x.closed(i, part));
            }
        }
    }

    /** "or a number is not as it may be" */
    private static void partsFromZeroToSix() {
        RdfsRules x = Samples.smallClosure();
        int[] wrongParts = {Integer.MIN_VALUE, -2, -1, 7, 8, Integer.MAX_VALUE};
        for (int what : wrongParts) {
            check.dueIllegalArgument("part " + what + " of the first", () -> x.closed(0, what));
            check.dueIllegalArgument("part " + what + " of the last", () -> x.closed(20, what));
        }
        check.due("part 0", x.closed(20, 0), 5);
        check.due("part 6", x.closed(20, 6), 4);
    }

    private static void bothWrong() {
        RdfsRules x = Samples.smallClosure();
        check.dueIllegalArgument("closed(-1, -1)", () -> x.closed(-1, -1));
        check.dueIllegalArgument("closed(21, 7)", () -> x.closed(21, 7));
    }

    private static void noRowBeforeRun() {
        check.dueIllegalArgument("of a new object", () -> new RdfsRules(1).closed(0, 0));
        RdfsRules x = Samples.withFacts(3);
        check.dueIllegalArgument("before run()", () -> x.closed(0, 0));
        x.run();
        check.due("after run()", x.closed(0, 0), 100);
    }

    private static void noRowOfAFormerClosure() {
        RdfsRules x = Samples.smallClosure();
        x.run();
        x.remove(110, 0, 100);
        x.remove(101, 4, 102);
        x.run();
        int rows = x.told(0);
        check.due("there are fewer", rows < 21);
        check.due("the last", x.closed(rows - 1, 6) > 0);
        check.dueIllegalArgument("the next", () -> x.closed(rows, 0));
        check.dueIllegalArgument("the former last", () -> x.closed(20, 0));
        x.remove(100, 4, 101);
        x.run();
        check.dueIllegalArgument("row 0 of nothing", () -> x.closed(0, 0));
    }

    private static void theSixHundredthRow() {
        RdfsRules x = Samples.closingTo(600);
        x.run();
        check.dueRow(x, 599, 100, 4, 132, 11, 447, 463, 5);
        check.dueIllegalArgument("row 600", () -> x.closed(600, 0));
    }

    /** "of the latest closure": changes are seen after the next run, and not if it is refused. */
    private static void ofTheLatestClosure() {
        RdfsRules x = Samples.smallClosure();
        x.remove(100, 4, 101);
        x.triple(102, 4, 103);
        x.axioms(true);
        check.dueRow(x, 0, 100, 4, 101, -1, -1, -1, 0);
        check.dueIllegalArgument("no more rows", () -> x.closed(21, 0));
        RdfsRules y = Samples.afterRefusedRun();
        check.dueRow(y, 0, 100, 4, 101, -1, -1, -1, 0);
        check.dueRow(y, 20, 5, 5, 5, 6, 18, -1, 4);
        check.dueIllegalArgument("no more rows after a refused run", () -> y.closed(21, 0));
    }

    private static void refusalsChangeNothing() {
        twins.dueIllegalArgument("closed(-1, 0)", Samples::smallClosure, x -> x.closed(-1, 0));
        twins.dueIllegalArgument("closed(21, 0)", Samples::smallClosure, x -> x.closed(21, 0));
        twins.dueIllegalArgument("closed(0, -1)", Samples::full, x -> x.closed(0, -1));
        twins.dueIllegalArgument("closed(0, 7)", Samples::full, x -> x.closed(0, 7));
        twins.dueIdle("closed(20, 6)", Samples::smallClosure, 4, x -> x.closed(20, 6));
    }
}
