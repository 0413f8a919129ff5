/** Promise 2: literal. */
public final class LiteralTest {
    private static final Check check = new Check();
    private static final Twins twins = new Twins(check);

    public static void main(String[] args) {
        termsRiseFrom300();
        eachHasItsOwnType();
        typesAtEachEndOfTheTerms();
        noTermIsNoType();
        aLiteralIsNoType();
        fortyAreTheMost();
        theWrongTypeIsNamedFirst();
        literalsAreNeverGone();
        aLiteralIsATermOnceItIsMade();
        refusalsChangeNothing();
        check.end();
    }

    /** "A literal of a type is made: its term." */
    private static void termsRiseFrom300() {
        RdfsRules x = new RdfsRules(0);
        for (int n = 0; n < 40; n++) {
            check.due("told(2) before", x.told(2), n);
            check.due("literal " + n, x.literal(100), 300 + n);
        }
        check.due("told(2)", x.told(2), 40);
        check.due("a literal is no given fact", x.told(1), 0);
        check.due("nor a row", x.told(0), 0);
    }

    /** "each of a term that is its type": of the first, the last, and two in between. */
    private static void eachHasItsOwnType() {
        RdfsRules x = Samples.withLiterals(40);
        int[] shown = {300, 301, 338, 339};
        for (int literal : shown) {
            x.triple(199, 198, literal);
        }
        x.run();
        for (int n = 0; n < shown.length; n++) {
            int literal = shown[n];
            check.due("the type of " + literal, x.find(literal, 0, literal - 200), 4 + n);
        }
        check.due("rule(0)", x.rule(0), 4);
    }

    private static void typesAtEachEndOfTheTerms() {
        RdfsRules x = new RdfsRules(0);
        int want = 300;
        for (int type : Samples.EDGE_TERMS) {
            check.due("literal(" + type + ")", x.literal(type), want++);
        }
        check.due("the same type again", x.literal(0), want);
        check.due("told(2)", x.told(2), 7);
    }

    /** "IllegalArgumentException: there is no such term" */
    private static void noTermIsNoType() {
        RdfsRules x = new RdfsRules(1);
        for (int type : Samples.WRONG_TERMS) {
            check.dueIllegalArgument("literal(" + type + ")", () -> x.literal(type));
        }
        check.due("told(2) after what was refused", x.told(2), 0);
        check.due("the first that is taken", x.literal(100), 300);
    }

    /** "also if the type is a literal": the first, the last that was made, the next that was not. */
    private static void aLiteralIsNoType() {
        for (int made = 1; made <= 40; made++) {
            RdfsRules x = Samples.withLiterals(made);
            int last = 299 + made;
            check.dueIllegalArgument("the first of " + made, () -> x.literal(300));
            check.dueIllegalArgument("the last of " + made, () -> x.literal(last));
            check.dueIllegalArgument("the next after " + made, () -> x.literal(last + 1));
            check.due("told(2)", x.told(2), made);
        }
    }

    /** "IllegalStateException: there are 40." */
    private static void fortyAreTheMost() {
        RdfsRules x = Samples.withLiterals(38);
        check.due("the 39th", x.literal(0), 338);
        check.due("the 40th", x.literal(0), 339);
        check.dueIllegalState("the 41st", () -> x.literal(0));
        check.dueIllegalState("again", () -> x.literal(199));
        check.due("told(2)", x.told(2), 40);
        check.due("the last is a term", x.triple(100, 101, 339), 1);
        check.dueIllegalArgument("340 is none", () -> x.triple(100, 101, 340));
    }

    /** "of several exceptions that fit the one named first is thrown" */
    private static void theWrongTypeIsNamedFirst() {
        RdfsRules x = Samples.withLiterals(40);
        for (int type : Samples.WRONG_TERMS) {
            check.dueIllegalArgument("literal(" + type + ") when there are 40", () -> x.literal(type));
        }
        check.due("told(2)", x.told(2), 40);
    }

    private static void literalsAreNeverGone() {
        RdfsRules x = Samples.withLiterals(40);
        x.triple(100, 101, 300);
        x.run();
        x.remove(100, 101, 300);
        x.run();
        check.due("told(2)", x.told(2), 40);
        check.dueIllegalState("still 40", () -> x.literal(100));
        check.due("still a term", x.triple(100, 101, 300), 1);
    }

    private static void aLiteralIsATermOnceItIsMade() {
        RdfsRules x = new RdfsRules(0);
        check.dueIllegalArgument("before", () -> x.triple(100, 101, 300));
        x.literal(150);
        check.due("after", x.triple(100, 101, 300), 1);
        check.dueIllegalArgument("the next is none yet", () -> x.triple(100, 101, 301));
        x.run();
        check.due("its type", x.find(300, 0, 150), 1);
    }

    private static void refusalsChangeNothing() {
        twins.dueIllegalArgument("literal(12)", () -> Samples.withLiterals(39), x -> x.literal(12));
        twins.dueIllegalArgument("literal(338)", () -> Samples.withLiterals(39), x -> x.literal(338));
        twins.dueIllegalArgument("literal(339)", () -> Samples.withLiterals(39), x -> x.literal(339));
        twins.dueIllegalArgument("literal(12) when full", Samples::full, x -> x.literal(12));
        twins.dueRefusal("literal(0) when full", Samples::full, IllegalStateException.class, x -> x.literal(0));
    }
}
