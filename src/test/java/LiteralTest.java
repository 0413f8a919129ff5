/** Promise 2: literal. */
public final class LiteralTest {
    private static final Check check = new Check();

    public static void main(String[] args) {
        termsRiseFrom300();
        wrongTypesAreRefused();
        fortyAreTheMost();
        aLiteralIsATermOnceItIsMade();
        check.end();
    }

    private static void termsRiseFrom300() {
        RdfsRules x = new RdfsRules(0);
        int want = 300;
        for (int type : Samples.EDGE_TERMS) {
            check.due("literal(" + type + ")", x.literal(type), want++);
        }
        check.due("the same type again", x.literal(0), want);
        check.due("told(2)", x.told(2), 7);
    }

    private static void wrongTypesAreRefused() {
        RdfsRules x = new RdfsRules(1);
        for (int type : Samples.WRONG_TERMS) {
            check.dueIllegalArgument("literal(" + type + ")", () -> x.literal(type));
        }
        check.due("told(2) after what was refused", x.told(2), 0);
        x.literal(100);
        check.dueIllegalArgument("a made literal as type", () -> x.literal(300));
        check.due("the next one", x.literal(100), 301);
    }

    private static void fortyAreTheMost() {
        RdfsRules x = Samples.withLiterals(39);
        check.due("the fortieth", x.literal(0), 339);
        check.dueThrow("one more", IllegalStateException.class, () -> x.literal(0));
        check.dueIllegalArgument("one more of a wrong type", () -> x.literal(12));
        check.dueIllegalArgument("one more of a literal", () -> x.literal(339));
        check.due("told(2)", x.told(2), 40);
        check.due("the last is a term", x.triple(100, 101, 339), 1);
        check.dueIllegalArgument("340 is none", () -> x.triple(100, 101, 340));
    }

    private static void aLiteralIsATermOnceItIsMade() {
        RdfsRules x = new RdfsRules(0);
        check.dueIllegalArgument("before", () -> x.triple(100, 101, 300));
        x.literal(150);
        check.due("after", x.triple(100, 101, 300), 1);
        check.dueIllegalArgument("the next is none yet", () -> x.triple(100, 101, 301));
        x.run();
        check.due("its type", x.find(300, 0, 150), 1);
    }
}
