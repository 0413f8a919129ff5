/** Promise 4: remove. */
public final class RemoveTest {
    private static final Check check = new Check();
    private static final Twins twins = new Twins(check);

    public static void main(String[] args) {
        aGivenFactIsNoMore();
        notGiven();
        anAxiomThatIsAskedFor();
        givenAxiomsAreRemovedFirst();
        membershipsAtTheCount();
        fromTheFullObject();
        orderOfTheOthersStays();
        downToNothing();
        noTermIsNoPart();
        aLiteralIsObjectAlone();
        refusalsChangeNothing();
        check.end();
    }

    /** "A given fact is no more: 1" */
    private static void aGivenFactIsNoMore() {
        RdfsRules x = Samples.smallClosure();
        check.due("given", x.remove(100, 4, 101), 1);
        check.due("told(1)", x.told(1), 2);
        check.due("no more given", x.remove(100, 4, 101), 0);
        check.due("told(1) still", x.told(1), 2);
        check.due("its row is still there", x.find(100, 4, 101), 0);
        x.run();
        check.due("and is none after run()", x.find(100, 4, 101), -1);
    }

    /** "0 if it was not given": on an empty object, for what differs in one part, for a made row. */
    private static void notGiven() {
        check.due("of nothing", new RdfsRules(1).remove(100, 4, 101), 0);
        RdfsRules x = Samples.smallClosure();
        check.due("another subject", x.remove(102, 4, 101), 0);
        check.due("another property", x.remove(100, 5, 101), 0);
        check.due("another object", x.remove(100, 4, 103), 0);
        check.due("a row that is made", x.remove(100, 4, 102), 0);
        check.due("told(1)", x.told(1), 3);
        twins.dueIdle("not given", Samples::smallClosure, 0, y -> y.remove(100, 4, 103));
        twins.dueIdle("a made row", Samples::smallClosure, 0, y -> y.remove(100, 4, 102));
        twins.dueIdle("not given when full", Samples::full, 0, y -> y.remove(100, 150, 301));
    }

    /** "2 if it is none, but one of the axioms that are asked for": the first, the last, all. */
    private static void anAxiomThatIsAskedFor() {
        RdfsRules x = new RdfsRules(1);
        check.due("the first before they are asked for", x.remove(0, 0, 1), 0);
        check.due("the last fixed one before", x.remove(9, 4, 3), 0);
        check.due("the last before", x.remove(28, 7, 2), 0);
        x.axioms(true);
        for (int[] axiom : AxiomsTest.FIXED) {
            check.due("an axiom", x.remove(axiom[0], axiom[1], axiom[2]), 2);
        }
        check.due("the last", x.remove(28, 7, 2), 2);
        check.due("it is one still", x.remove(28, 7, 2), 2);
        check.due("one part is other", x.remove(0, 0, 2), 0);
        check.due("a fact of the closure that is none", x.remove(6, 0, 1), 0);
        check.due("told(1)", x.told(1), 0);
        x.axioms(false);
        check.due("not asked for any more", x.remove(0, 0, 1), 0);
        check.due("no last one any more", x.remove(28, 7, 2), 0);
        twins.dueIdle("an axiom", Samples::full, 2, y -> y.remove(0, 0, 1));
        twins.dueIdle("a membership's axiom", Samples::full, 2, y -> y.remove(24, 7, 2));
        twins.dueIdle("one beyond the count", Samples::full, 0, y -> y.remove(25, 0, 11));
    }

    /** "A given fact is no more: 1; .. 2 if it is none, but one of the axioms": 1 while it is given. */
    private static void givenAxiomsAreRemovedFirst() {
        RdfsRules x = new RdfsRules(1);
        x.axioms(true);
        x.triple(9, 4, 3);
        check.due("a given axiom", x.remove(9, 4, 3), 1);
        check.due("no fact is given", x.told(1), 0);
        check.due("still an axiom", x.remove(9, 4, 3), 2);
        x.run();
        check.due("still its row", x.find(9, 4, 3), 14);
        RdfsRules y = new RdfsRules(1);
        y.triple(20, 0, 11);
        y.axioms(true);
        check.due("given before the axioms", y.remove(20, 0, 11), 1);
        check.due("an axiom then", y.remove(20, 0, 11), 2);
        RdfsRules z = new RdfsRules(0);
        z.axioms(true);
        z.triple(20, 0, 11);
        check.due("given, and no axiom without memberships", z.remove(20, 0, 11), 1);
        check.due("not given then", z.remove(20, 0, 11), 0);
    }

    /** The axioms that are asked for end with the last of the first n memberships. */
    private static void membershipsAtTheCount() {
        for (int n = 0; n <= 9; n++) {
            RdfsRules x = new RdfsRules(1);
            x.axioms(true);
            x.count(n);
            for (int m = 20; m <= 28; m++) {
                int want = m - 20 < n ? 2 : 0;
                check.due("remove(" + m + ", 0, 11) of " + n, x.remove(m, 0, 11), want);
                check.due("remove(" + m + ", 6, 2) of " + n, x.remove(m, 6, 2), want);
                check.due("remove(" + m + ", 7, 2) of " + n, x.remove(m, 7, 2), want);
            }
        }
    }

    /** Of 80 given facts the first, one in the middle and the last. */
    private static void fromTheFullObject() {
        RdfsRules x = Samples.withFacts(80);
        check.due("the last", x.remove(179, 199, 100), 1);
        check.due("the first", x.remove(100, 199, 100), 1);
        check.due("one in the middle", x.remove(140, 199, 100), 1);
        check.due("told(1)", x.told(1), 77);
        x.run();
        check.due("row 0", x.closed(0, 0), 101);
        check.due("row 38", x.closed(38, 0), 139);
        check.due("row 39", x.closed(39, 0), 141);
        check.due("row 76", x.closed(76, 0), 178);
        check.due("row 77 is made", x.closed(77, 6), 1);
        for (int s = 101; s <= 178; s++) {
            check.due("each is found once", x.remove(s, 199, 100), s == 140 ? 0 : 1);
        }
        check.due("none is left", x.told(1), 0);
    }

    private static void orderOfTheOthersStays() {
        RdfsRules x = new RdfsRules(0);
        for (int s = 100; s < 104; s++) {
            x.triple(s, 110, 110);
        }
        x.remove(101, 110, 110);
        x.triple(101, 110, 110);
        x.remove(100, 110, 110);
        x.run();
        check.due("row 0", x.closed(0, 0), 102);
        check.due("row 1", x.closed(1, 0), 103);
        check.due("row 2, which came again", x.closed(2, 0), 101);
    }

    private static void downToNothing() {
        RdfsRules x = new RdfsRules(0);
        x.triple(100, 110, 110);
        x.run();
        check.due("the only one", x.remove(100, 110, 110), 1);
        check.due("told(1)", x.told(1), 0);
        check.due("of nothing", x.remove(100, 110, 110), 0);
        check.due("run() of nothing", x.run(), 0);
        check.due("told(0)", x.told(0), 0);
        check.due("the first again", x.triple(100, 110, 110), 1);
    }

    /** "IllegalArgumentException: as with triple()", whether facts are given or not. */
    private static void noTermIsNoPart() {
        for (int facts : new int[] {0, 3, 80}) {
            RdfsRules x = Samples.withFacts(facts);
            for (int term : Samples.WRONG_TERMS) {
                check.dueIllegalArgument("subject " + term, () -> x.remove(term, 100, 100));
                check.dueIllegalArgument("property " + term, () -> x.remove(100, term, 100));
                check.dueIllegalArgument("object " + term, () -> x.remove(100, 100, term));
            }
            check.due("told(1)", x.told(1), facts);
        }
    }

    private static void aLiteralIsObjectAlone() {
        RdfsRules x = Samples.withLiterals(40);
        for (int literal : new int[] {300, 339}) {
            check.dueIllegalArgument(literal + " as subject", () -> x.remove(literal, 100, 100));
            check.dueIllegalArgument(literal + " as property", () -> x.remove(100, literal, 100));
            check.due(literal + " as object, not given", x.remove(100, 100, literal), 0);
            x.triple(100, 100, literal);
            check.due(literal + " as object, given", x.remove(100, 100, literal), 1);
        }
        x.triple(100, 100, 339);
        x.run();
        check.due("a literal is a row's subject", x.find(339, 0, 139) >= 0);
        check.dueIllegalArgument("but no fact's", () -> x.remove(339, 0, 139));
    }

    private static void refusalsChangeNothing() {
        twins.dueIllegalArgument("no subject", Samples::smallClosure, x -> x.remove(99, 4, 101));
        twins.dueIllegalArgument("no property", Samples::smallClosure, x -> x.remove(100, 12, 101));
        twins.dueIllegalArgument("no object", Samples::smallClosure, x -> x.remove(100, 4, 200));
        twins.dueIllegalArgument("a literal as subject", Samples::full, x -> x.remove(300, 150, 300));
        twins.dueIllegalArgument("a literal as property", Samples::full, x -> x.remove(100, 339, 300));
        twins.dueIllegalArgument("340 as object", Samples::full, x -> x.remove(100, 150, 340));
    }
}
