/** Promise 7: run, its rounds and its limit. */
public final class RunTest {
    private static final Check check = new Check();
    private static final Twins twins = new Twins(check);
    /** All that follows of (100 101 102), word for word. */
    private static final int[][] OF_ONE_FACT = {
        {100, 101, 102, -1, -1, -1, 0},
        {101, 0, 1, 1, 0, -1, 1},
        {100, 0, 2, 4, 0, -1, 1},
        {102, 0, 2, 4, 0, -1, 1},
        {0, 0, 1, 1, 1, -1, 2},
        {101, 0, 2, 4, 1, -1, 2},
        {1, 0, 2, 4, 1, -1, 2},
        {2, 0, 2, 4, 2, -1, 2},
        {101, 5, 101, 6, 1, -1, 2},
        {5, 0, 1, 1, 8, -1, 3},
        {0, 0, 2, 4, 4, -1, 3},
        {0, 5, 0, 6, 4, -1, 3},
        {5, 0, 2, 4, 9, -1, 4},
        {5, 5, 5, 6, 9, -1, 4},
    };

    public static void main(String[] args) {
        roundsAsTheyAreWritten();
        noRoundWithoutRows();
        noRoundThatMakesNone();
        oneRoundForOneFact();
        theLastRowIsOfTheLastRound();
        anew();
        runningAgainChangesNothing();
        sixHundredRowsAreTheMost();
        oneMoreThanSixHundred();
        tooManyInTheFirstRound();
        tooManyByTheAxioms();
        theFirstRunIsRefused();
        tooManyRowsChangeNothing();
        afterRefusalsItFitsAgain();
        check.end();
    }

    private static void roundsAsTheyAreWritten() {
        RdfsRules x = new RdfsRules(0);
        x.triple(100, 101, 102);
        check.due("run()", x.run(), 4);
        check.due("told(0)", x.told(0), OF_ONE_FACT.length);
        for (int i = 0; i < OF_ONE_FACT.length; i++) {
            check.dueRow(x, i, OF_ONE_FACT[i]);
        }
    }

    /** "The first round that makes none ends it (it is not counted)": on an empty object the first. */
    private static void noRoundWithoutRows() {
        for (int memberships = 0; memberships <= 1; memberships++) {
            RdfsRules x = new RdfsRules(memberships);
            x.literal(100);
            check.due("run()", x.run(), 0);
            check.due("told(0)", x.told(0), 0);
            check.due("run() again", x.run(), 0);
        }
    }

    private static RdfsRules givenTheFirstRows(int n) {
        RdfsRules x = new RdfsRules(0);
        for (int i = 0; i < n; i++) {
            x.triple(OF_ONE_FACT[i][0], OF_ONE_FACT[i][1], OF_ONE_FACT[i][2]);
        }
        return x;
    }

    /** All that follows is given: the first round makes none. */
    private static void noRoundThatMakesNone() {
        RdfsRules x = givenTheFirstRows(OF_ONE_FACT.length);
        check.due("run()", x.run(), 0);
        check.due("told(0)", x.told(0), OF_ONE_FACT.length);
        for (int i = 0; i < OF_ONE_FACT.length; i++) {
            check.dueRow(x, i, OF_ONE_FACT[i][0], OF_ONE_FACT[i][1], OF_ONE_FACT[i][2], -1, -1, -1, 0);
        }
    }

    /** All but the last is given: one round makes it, the next makes none. */
    private static void oneRoundForOneFact() {
        int last = OF_ONE_FACT.length - 1;
        RdfsRules x = givenTheFirstRows(last);
        check.due("run()", x.run(), 1);
        check.due("told(0)", x.told(0), last + 1);
        check.dueRow(x, last, 5, 5, 5, 6, 9, -1, 1);
    }

    /** "how many rounds" */
    private static void theLastRowIsOfTheLastRound() {
        RdfsRules x = Samples.smallClosure();
        check.due("of a small closure", x.run(), x.closed(x.told(0) - 1, 6));
        x = Samples.full();
        check.due("of a full object", x.run(), x.closed(x.told(0) - 1, 6));
        x = Samples.closingTo(600);
        check.due("of 600 rows", x.run(), 5);
        check.due("of the last of them", x.closed(599, 6), 5);
    }

    /** "THE CLOSURE, anew": nothing of the former one is left. */
    private static void anew() {
        RdfsRules x = Samples.smallClosure();
        x.remove(110, 0, 100);
        x.remove(100, 4, 101);
        x.remove(101, 4, 102);
        check.due("of nothing", x.run(), 0);
        check.due("no rows", x.told(0), 0);
        check.due("no find", x.find(100, 4, 101), -1);
        x.triple(100, 101, 102);
        check.due("of another fact", x.run(), 4);
        check.due("its rows", x.told(0), OF_ONE_FACT.length);
        for (int i = 0; i < OF_ONE_FACT.length; i++) {
            check.dueRow(x, i, OF_ONE_FACT[i]);
        }
        check.due("find(110, 0, 102)", x.find(110, 0, 102), -1);
    }

    private static void runningAgainChangesNothing() {
        twins.dueIdle("of a small closure", Samples::smallClosure, 4, RdfsRules::run);
        twins.dueIdle("of a full object", Samples::full, 3, RdfsRules::run);
        twins.dueIdle("of nothing", () -> new RdfsRules(1), 0, RdfsRules::run);
    }

    /** "A closure may have 600 rows.", "UnsupportedOperationException: it would have more than 600 rows." */
    private static void sixHundredRowsAreTheMost() {
        for (int rows : new int[] {598, 599, 600}) {
            RdfsRules x = Samples.closingTo(rows);
            check.due("run() of " + rows, x.run(), 5);
            check.due("told(0)", x.told(0), rows);
            check.dueRow(x, rows - 1, 100, 4, 132, 11, rows - 153, rows - 137, 5);
            check.dueIllegalArgument("there is no row more", () -> x.closed(rows, 0));
        }
        for (int rows : new int[] {601, 602, 603}) {
            RdfsRules x = Samples.closingTo(rows);
            check.dueUnsupported("run() of " + rows, x::run);
            check.due("told(0)", x.told(0), 0);
        }
    }

    /** From 600 rows to one more and back. */
    private static void oneMoreThanSixHundred() {
        RdfsRules x = Samples.closingTo(600);
        x.run();
        x.triple(150, 199, 151);
        check.dueUnsupported("one more", x::run);
        check.due("told(0) after it", x.told(0), 600);
        check.due("the one more is no row", x.find(150, 199, 151), -1);
        x.remove(150, 199, 151);
        check.due("without it", x.run(), 5);
        check.due("told(0) without it", x.told(0), 600);
    }

    /** 20 properties above one that 40 facts have: 800 facts by rule 7 at once. */
    private static void tooManyInTheFirstRound() {
        RdfsRules x = new RdfsRules(0);
        for (int i = 0; i < 20; i++) {
            x.triple(199, 5, 100 + i);
        }
        for (int i = 0; i < 40; i++) {
            x.triple(120 + i, 199, 120);
        }
        check.dueUnsupported("run()", x::run);
        check.due("told(0)", x.told(0), 0);
        check.due("told(1)", x.told(1), 60);
    }

    private static void tooManyByTheAxioms() {
        RdfsRules x = Samples.closingTo(600);
        x.run();
        x.axioms(true);
        check.dueUnsupported("with axioms", x::run);
        check.due("told(0)", x.told(0), 600);
        check.due("the latest has none", x.closed(0, 3), RdfsRules.NONE);
        x.axioms(false);
        check.due("without axioms", x.run(), 5);
    }

    /** There is no latest closure yet, and there is none after it. */
    private static void theFirstRunIsRefused() {
        RdfsRules x = Samples.closingTo(601);
        for (int times = 0; times < 3; times++) {
            check.dueUnsupported("run()", x::run);
            for (int what : new int[] {0, 3, 4}) {
                check.due("told(" + what + ")", x.told(what), 0);
            }
            for (int r = 0; r <= 13; r++) {
                check.due("rule(" + r + ")", x.rule(r), 0);
            }
            check.due("find(100, 4, 101)", x.find(100, 4, 101), -1);
            check.dueIllegalArgument("closed(0, 0)", () -> x.closed(0, 0));
            check.dueIllegalArgument("trace(0)", () -> x.trace(0));
            check.dueIllegalArgument("proof(0, 0)", () -> x.proof(0, 0));
        }
    }

    /** "A call that throws changes nothing" */
    private static void tooManyRowsChangeNothing() {
        RdfsRules x = Samples.smallClosure();
        int rows = x.told(0);
        Samples.giveTooMuch(x);
        x.axioms(true);
        int given = x.told(1);
        for (int times = 0; times < 3; times++) {
            check.dueUnsupported("run()", x::run);
            check.due("told(0)", x.told(0), rows);
            check.due("told(1)", x.told(1), given);
            check.due("find(110, 0, 102)", x.find(110, 0, 102), 17);
            check.dueRow(x, 0, 100, 4, 101, -1, -1, -1, 0);
            check.due("trace(17)", x.trace(17), 5);
            check.due("proof(17, 3)", x.proof(17, 3), 9);
            check.due("rule(11)", x.rule(11), 1);
            check.due("find(120, 4, 121)", x.find(120, 4, 121), -1);
            check.due("axioms are still asked for", x.remove(0, 0, 1), 2);
            check.dueIllegalArgument("no more rows", () -> x.closed(rows, 0));
        }
    }

    /** A run that fits answers what it would without those that did not. */
    private static void afterRefusalsItFitsAgain() {
        RdfsRules x = Samples.afterRefusedRun();
        check.dueUnsupported("run()", x::run);
        for (int i = 2; i < 60; i++) {
            x.remove(100 + i, 4, 101 + i);
        }
        check.due("run() when it fits again", x.run(), 4);
        twins.compare("when it fits again", x, Samples.smallClosure());
    }
}
