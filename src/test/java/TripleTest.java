/** Promise 3: triple. */
public final class TripleTest {
    private static final Check check = new Check();

    public static void main(String[] args) {
        givenFactsAreCountedOnce();
        orderIsAsTheyCame();
        wrongPartsAreRefused();
        eightyAreTheMost();
        anAxiomMayBeGiven();
        check.end();
    }

    private static void givenFactsAreCountedOnce() {
        RdfsRules x = new RdfsRules(0);
        check.due("the first", x.triple(100, 101, 102), 1);
        check.due("the same", x.triple(100, 101, 102), 1);
        check.due("another object", x.triple(100, 101, 103), 2);
        check.due("another property", x.triple(100, 102, 102), 3);
        check.due("another subject", x.triple(101, 101, 102), 4);
        check.due("told(1)", x.told(1), 4);
        for (int term : Samples.EDGE_TERMS) {
            int before = x.told(1);
            check.due("edge " + term, x.triple(term, term, term), before + 1);
        }
        check.due("no rows without run()", x.told(0), 0);
    }

    private static void orderIsAsTheyCame() {
        RdfsRules x = new RdfsRules(0);
        x.triple(105, 100, 100);
        x.triple(103, 100, 100);
        x.triple(104, 100, 100);
        x.triple(105, 100, 100);
        x.run();
        check.dueRow(x, 0, 105, 100, 100, -1, -1, -1, 0);
        check.dueRow(x, 1, 103, 100, 100, -1, -1, -1, 0);
        check.dueRow(x, 2, 104, 100, 100, -1, -1, -1, 0);
    }

    private static void wrongPartsAreRefused() {
        RdfsRules x = new RdfsRules(0);
        for (int term : Samples.WRONG_TERMS) {
            check.dueIllegalArgument("subject " + term, () -> x.triple(term, 100, 100));
            check.dueIllegalArgument("property " + term, () -> x.triple(100, term, 100));
            check.dueIllegalArgument("object " + term, () -> x.triple(100, 100, term));
        }
        x.literal(100);
        check.dueIllegalArgument("a literal as subject", () -> x.triple(300, 100, 100));
        check.dueIllegalArgument("a literal as property", () -> x.triple(100, 300, 100));
        check.due("told(1)", x.told(1), 0);
        check.due("a literal as object", x.triple(100, 100, 300), 1);
    }

    private static void eightyAreTheMost() {
        RdfsRules x = Samples.withFacts(79);
        check.due("the eightieth", x.triple(100, 0, 100), 80);
        check.dueThrow("one more", IllegalStateException.class, () -> x.triple(100, 0, 101));
        check.dueIllegalArgument("one more that is none", () -> x.triple(100, 0, 300));
        check.due("one that was given", x.triple(100, 0, 100), 80);
        check.due("told(1)", x.told(1), 80);
        check.due("one is removed", x.remove(100, 199, 100), 1);
        check.due("there is room again", x.triple(100, 0, 101), 80);
    }

    private static void anAxiomMayBeGiven() {
        RdfsRules x = new RdfsRules(0);
        x.axioms(true);
        check.due("an axiom given", x.triple(0, 0, 1), 1);
        check.due("a fact given", x.triple(100, 100, 100), 2);
        x.run();
        check.dueRow(x, 0, 0, 0, 1, -2, -1, -1, 0);
        check.dueRow(x, 15, 100, 100, 100, -1, -1, -1, 0);
        x.axioms(false);
        x.run();
        check.dueRow(x, 0, 0, 0, 1, -1, -1, -1, 0);
    }
}
