/** Promise 3: triple. */
public final class TripleTest {
    private static final Check check = new Check();
    private static final Twins twins = new Twins(check);

    public static void main(String[] args) {
        howManyAre();
        nothingIfItWas();
        orderIsAsTheyCame();
        partsAtEachEndOfTheTerms();
        noTermIsNoPart();
        aLiteralIsObjectAlone();
        eightyAreTheMost();
        oneThatWasGivenIsNotOneMore();
        theWrongPartIsNamedFirst();
        roomComesBack();
        axiomsTakeNoRoom();
        anAxiomMayBeGiven();
        refusalsChangeNothing();
        check.end();
    }

    /** "A fact is given ..: how many are." From none to all. */
    private static void howManyAre() {
        RdfsRules x = new RdfsRules(0);
        for (int n = 0; n < 80; n++) {
            check.due("told(1) before", x.told(1), n);
            check.due("fact " + n, x.triple(100 + n, 100, 100), n + 1);
        }
        check.due("told(1)", x.told(1), 80);
        check.due("no rows without run()", x.told(0), 0);
        check.due("none is found", x.find(100, 100, 100), -1);
    }

    /** "(nothing, if it was)": the same in all three parts, and not in two of them. */
    private static void nothingIfItWas() {
        RdfsRules x = new RdfsRules(0);
        check.due("the first", x.triple(100, 101, 102), 1);
        check.due("the same", x.triple(100, 101, 102), 1);
        check.due("another object", x.triple(100, 101, 103), 2);
        check.due("another property", x.triple(100, 102, 102), 3);
        check.due("another subject", x.triple(101, 101, 102), 4);
        check.due("the first again", x.triple(100, 101, 102), 4);
        check.due("the last again", x.triple(101, 101, 102), 4);
        check.due("told(1)", x.told(1), 4);
        twins.dueIdle("a given one", Samples::smallClosure, 3, y -> y.triple(100, 4, 101));
        twins.dueIdle("the last given one", Samples::smallClosure, 3, y -> y.triple(110, 0, 100));
    }

    /** "GIVEN facts have an order, as they came." */
    private static void orderIsAsTheyCame() {
        RdfsRules x = new RdfsRules(0);
        x.triple(105, 100, 100);
        x.triple(103, 100, 100);
        x.triple(104, 100, 100);
        x.triple(105, 100, 100);
        x.run();
        check.dueRow(x, 0, 105, 100, 100, -1, -1, -1, 0);
        check.dueRow(x, 1, 103, 100, 100, -1, -1, -1, 0);
        check.dueRow(x, 2, 104, 100, 100, -1, -1, -1, 0);
    }

    private static void partsAtEachEndOfTheTerms() {
        RdfsRules x = new RdfsRules(0);
        int want = 0;
        for (int term : Samples.EDGE_TERMS) {
            want++;
            check.due("all parts " + term, x.triple(term, term, term), want);
        }
        x.literal(100);
        check.due("the first literal", x.triple(0, 0, 300), want + 1);
    }

    /** "IllegalArgumentException: there is no such term" */
    private static void noTermIsNoPart() {
        RdfsRules x = new RdfsRules(0);
        for (int term : Samples.WRONG_TERMS) {
            check.dueIllegalArgument("subject " + term, () -> x.triple(term, 100, 100));
            check.dueIllegalArgument("property " + term, () -> x.triple(100, term, 100));
            check.dueIllegalArgument("object " + term, () -> x.triple(100, 100, term));
            check.dueIllegalArgument("all parts " + term, () -> x.triple(term, term, term));
        }
        check.due("told(1)", x.told(1), 0);
    }

    /** "also if s or p is a literal" */
    private static void aLiteralIsObjectAlone() {
        RdfsRules x = Samples.withLiterals(40);
        int want = 0;
        for (int literal : new int[] {300, 339}) {
            check.dueIllegalArgument(literal + " as subject", () -> x.triple(literal, 100, 100));
            check.dueIllegalArgument(literal + " as property", () -> x.triple(100, literal, 100));
            check.dueIllegalArgument(literal + " as both", () -> x.triple(literal, literal, 100));
            check.due("told(1)", x.told(1), want);
            want++;
            check.due(literal + " as object", x.triple(100, 100, literal), want);
        }
    }

    /** "IllegalStateException: there would be more than 80." */
    private static void eightyAreTheMost() {
        RdfsRules x = Samples.withFacts(78);
        check.due("the 79th", x.triple(100, 0, 100), 79);
        check.due("the 80th", x.triple(100, 0, 101), 80);
        check.dueIllegalState("the 81st", () -> x.triple(100, 0, 102));
        check.dueIllegalState("again", () -> x.triple(100, 0, 102));
        check.due("told(1)", x.told(1), 80);
        x.run();
        check.due("the 80th is a row", x.find(100, 0, 101), 79);
        check.due("the 81st is none", x.find(100, 0, 102), -1);
    }

    /** "(nothing, if it was)": of 80 facts each may be told again, there would not be more. */
    private static void oneThatWasGivenIsNotOneMore() {
        RdfsRules x = Samples.withFacts(80);
        for (int n = 0; n < 80; n++) {
            check.due("fact " + n + " again", x.triple(100 + n, 199, 100), 80);
        }
        check.due("told(1)", x.told(1), 80);
        twins.dueIdle("the first again", Samples::full, 80, y -> y.triple(100, 150, 300));
        twins.dueIdle("the last again", Samples::full, 80, y -> y.triple(139, 151, 339));
    }

    /** "of several exceptions that fit the one named first is thrown" */
    private static void theWrongPartIsNamedFirst() {
        RdfsRules x = Samples.withFacts(80);
        for (int term : Samples.WRONG_TERMS) {
            check.dueIllegalArgument("subject " + term + " of an 81st", () -> x.triple(term, 100, 100));
            check.dueIllegalArgument("property " + term + " of an 81st", () -> x.triple(100, term, 100));
            check.dueIllegalArgument("object " + term + " of an 81st", () -> x.triple(100, 100, term));
        }
        x.literal(100);
        check.dueIllegalArgument("a literal as subject", () -> x.triple(300, 100, 100));
        check.dueIllegalArgument("a literal as property", () -> x.triple(100, 300, 100));
        check.dueIllegalState("a literal as object", () -> x.triple(100, 100, 300));
    }

    private static void roomComesBack() {
        RdfsRules x = Samples.withFacts(80);
        check.due("one is removed", x.remove(100, 199, 100), 1);
        check.due("there is room again", x.triple(100, 0, 101), 80);
        check.dueIllegalState("and then none", () -> x.triple(100, 199, 100));
        check.due("one that is not given", x.remove(100, 199, 100), 0);
        check.dueIllegalState("makes no room", () -> x.triple(100, 199, 100));
    }

    /** Axioms and rows are no given facts: with all of them there is still room for 80. */
    private static void axiomsTakeNoRoom() {
        RdfsRules x = new RdfsRules(1);
        x.axioms(true);
        x.run();
        check.due("told(1)", x.told(1), 0);
        for (int n = 0; n < 80; n++) {
            check.due("fact " + n, x.triple(100 + n, 4, 2), n + 1);
        }
        check.dueIllegalState("the 81st", () -> x.triple(100, 5, 2));
        check.dueIllegalState("an axiom is one more, too", () -> x.triple(0, 0, 1));
        check.due("told(1)", x.told(1), 80);
    }

    private static void anAxiomMayBeGiven() {
        RdfsRules x = new RdfsRules(0);
        x.axioms(true);
        check.due("an axiom given", x.triple(0, 0, 1), 1);
        check.due("a fact given", x.triple(100, 100, 100), 2);
        x.run();
        check.dueRow(x, 0, 0, 0, 1, -2, -1, -1, 0);
        check.dueRow(x, 15, 100, 100, 100, -1, -1, -1, 0);
        x.axioms(false);
        x.run();
        check.dueRow(x, 0, 0, 0, 1, -1, -1, -1, 0);
    }

    private static void refusalsChangeNothing() {
        Class<IllegalStateException> full = IllegalStateException.class;
        twins.dueRefusal("the 81st", () -> Samples.withFacts(80), full, x -> x.triple(100, 0, 102));
        twins.dueRefusal("the 81st of a full object", Samples::full, full, x -> x.triple(100, 0, 102));
        twins.dueIllegalArgument("no subject", () -> Samples.withFacts(79), x -> x.triple(12, 0, 0));
        twins.dueIllegalArgument("no property", () -> Samples.withFacts(79), x -> x.triple(0, 12, 0));
        twins.dueIllegalArgument("no object", () -> Samples.withFacts(79), x -> x.triple(0, 0, 12));
        twins.dueIllegalArgument("a literal as subject", Samples::full, x -> x.triple(300, 150, 300));
        twins.dueIllegalArgument("a literal as property", Samples::full, x -> x.triple(100, 300, 300));
    }
}
