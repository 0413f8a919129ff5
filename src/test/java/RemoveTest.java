/** Promise 4: remove. */
public final class RemoveTest {
    private static final Check check = new Check();

    public static void main(String[] args) {
        answersTellWhatItWas();
        orderOfTheOthersStays();
        givenAxiomsAreRemovedFirst();
        wrongPartsAreRefused();
        check.end();
    }

    private static void answersTellWhatItWas() {
        RdfsRules x = Samples.smallClosure();
        check.due("not given", x.remove(100, 4, 103), 0);
        check.due("a row that is not given", x.remove(100, 4, 102), 0);
        check.due("given", x.remove(100, 4, 101), 1);
        check.due("told(1)", x.told(1), 2);
        check.due("no more given", x.remove(100, 4, 101), 0);
        check.due("its row is still there", x.find(100, 4, 101), 0);
        x.run();
        check.due("and is none after run()", x.find(100, 4, 101), -1);
    }

    private static void orderOfTheOthersStays() {
        RdfsRules x = new RdfsRules(0);
        for (int s = 100; s < 104; s++) {
            x.triple(s, 110, 110);
        }
        x.remove(101, 110, 110);
        x.triple(101, 110, 110);
        x.remove(100, 110, 110);
        x.run();
        check.due("row 0", x.closed(0, 0), 102);
        check.due("row 1", x.closed(1, 0), 103);
        check.due("row 2", x.closed(2, 0), 101);
        x.remove(101, 110, 110);
        x.remove(102, 110, 110);
        x.remove(103, 110, 110);
        check.due("told(1)", x.told(1), 0);
        check.due("run() of nothing", x.run(), 0);
        check.due("told(0)", x.told(0), 0);
    }

    private static void givenAxiomsAreRemovedFirst() {
        RdfsRules x = new RdfsRules(1);
        check.due("axioms that are not asked for", x.remove(9, 4, 3), 0);
        x.axioms(true);
        check.due("an axiom", x.remove(9, 4, 3), 2);
        check.due("of a membership", x.remove(24, 6, 2), 2);
        x.triple(9, 4, 3);
        check.due("a given axiom", x.remove(9, 4, 3), 1);
        check.due("still an axiom", x.remove(9, 4, 3), 2);
        check.due("no fact is given", x.told(1), 0);
        x.count(4);
        check.due("the last membership", x.remove(23, 7, 2), 2);
        check.due("one beyond", x.remove(24, 6, 2), 0);
        x.axioms(false);
        check.due("not asked for any more", x.remove(9, 4, 3), 0);
    }

    private static void wrongPartsAreRefused() {
        RdfsRules x = Samples.withFacts(3);
        for (int term : Samples.WRONG_TERMS) {
            check.dueIllegalArgument("subject " + term, () -> x.remove(term, 100, 100));
            check.dueIllegalArgument("property " + term, () -> x.remove(100, term, 100));
            check.dueIllegalArgument("object " + term, () -> x.remove(100, 100, term));
        }
        x.literal(100);
        check.dueIllegalArgument("a literal as subject", () -> x.remove(300, 100, 100));
        check.dueIllegalArgument("a literal as property", () -> x.remove(100, 300, 100));
        check.due("a literal as object", x.remove(100, 100, 300), 0);
        check.due("told(1)", x.told(1), 3);
    }
}
