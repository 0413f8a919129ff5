/** Promise 13: told. */
public final class ToldTest {
    private static final Check check = new Check();
    private static final Twins twins = new Twins(check);

    public static void main(String[] args) {
        nothingOfANewObject();
        rows();
        givenFacts();
        literals();
        literalSubjects();
        membershipsAsPropertyAlone();
        membershipsAtTheCount();
        allAreWithoutAxioms();
        membershipsOfThatClosure();
        ofSixHundredRows();
        rowsOfAFormerClosureDoNotCount();
        whatFromZeroToFour();
        refusalsChangeNothing();
        check.end();
    }

    private static void nothingOfANewObject() {
        RdfsRules x = new RdfsRules(1);
        for (int times = 0; times < 2; times++) {
            for (int what = 0; what <= 4; what++) {
                check.due("told(" + what + ")", x.told(what), 0);
            }
            x.run();
        }
    }

    /** "Rows (what = 0)": of the latest closure, from none to 600. */
    private static void rows() {
        RdfsRules x = Samples.smallClosure();
        check.due("told(0)", x.told(0), 21);
        x.literal(100);
        x.triple(100, 101, 300);
        x.axioms(true);
        check.due("told(0) before run()", x.told(0), 21);
        RdfsRules y = Samples.closingTo(600);
        check.due("told(0) before the first run()", y.told(0), 0);
        y.run();
        check.due("told(0) of 600", y.told(0), 600);
        y.triple(150, 199, 151);
        check.dueUnsupported("run() of more", y::run);
        check.due("told(0) of 600 still", y.told(0), 600);
    }

    /** "given facts (1)": at once, from none to 80, and neither axioms nor what follows. */
    private static void givenFacts() {
        RdfsRules x = Samples.withFacts(79);
        check.due("told(1) of 79", x.told(1), 79);
        x.triple(100, 0, 100);
        check.due("told(1) of 80", x.told(1), 80);
        check.dueIllegalState("one more", () -> x.triple(100, 0, 101));
        check.due("told(1) of 80 still", x.told(1), 80);
        x.axioms(true);
        x.run();
        check.due("told(1) after run()", x.told(1), 80);
        x.remove(100, 0, 100);
        check.due("told(1) of one less", x.told(1), 79);
        x.remove(100, 0, 100);
        check.due("told(1) of one that was not given", x.told(1), 79);
    }

    /** "literals (2)": at once, from none to 40, in facts or not. */
    private static void literals() {
        RdfsRules x = Samples.withLiterals(39);
        check.due("told(2) of 39", x.told(2), 39);
        x.literal(100);
        check.due("told(2) of 40", x.told(2), 40);
        check.dueIllegalState("one more", () -> x.literal(100));
        check.due("told(2) of 40 still", x.told(2), 40);
        x.run();
        check.due("told(2) after run()", x.told(2), 40);
        check.due("told(3) when they are in no row", x.told(3), 0);
    }

    /** "rows whose subject is a literal (3)": the first and the last literal, and no name. */
    private static void literalSubjects() {
        RdfsRules x = Samples.withLiterals(40);
        x.triple(199, 151, 199);
        x.run();
        check.due("told(3) of the highest name", x.told(3), 0);
        x.triple(199, 151, 300);
        check.due("told(3) before run()", x.told(3), 0);
        x.run();
        check.due("told(3): type and resource of the first", x.told(3), 2);
        x.triple(199, 151, 339);
        x.run();
        check.due("told(3): of the last, too", x.told(3), 4);
        RdfsRules y = Samples.full();
        check.due("told(3): of all 40", y.told(3), 80);
        RdfsRules z = Samples.withLiterals(1);
        z.triple(101, 5, 300);
        z.run();
        check.due("told(3): as object it is not counted", z.told(3), 2);
    }

    /** A fact of each membership as property, and of the terms just below and above them. */
    private static RdfsRules withMembershipFacts(int memberships) {
        RdfsRules x = new RdfsRules(memberships);
        for (int m = 20; m <= 28; m++) {
            x.triple(101, m, 102);
        }
        x.triple(101, 11, 102);
        x.triple(101, 100, 102);
        return x;
    }

    /** "rows with a MEMBERSHIP .. as property": neither as subject nor as object. */
    private static void membershipsAsPropertyAlone() {
        RdfsRules x = new RdfsRules(0);
        x.triple(20, 11, 28);
        x.triple(28, 100, 20);
        x.triple(20, 0, 28);
        x.run();
        check.due("told(4) as subject and object", x.told(4), 0);
        x.triple(100, 20, 100);
        x.run();
        check.due("told(4) of the first", x.told(4), 1);
        x.triple(100, 28, 100);
        x.run();
        check.due("told(4) of the last, too", x.told(4), 2);
        x.triple(101, 28, 100);
        x.run();
        check.due("told(4) counts rows, not memberships", x.told(4), 3);
    }

    /** "beyond those in the axioms of that closure" */
    private static void membershipsAtTheCount() {
        for (int n = 0; n <= 9; n++) {
            RdfsRules x = withMembershipFacts(1);
            x.axioms(true);
            x.count(n);
            check.due("told(4) before run()", x.told(4), 0);
            x.run();
            check.due("told(4) with " + n, x.told(4), 9 - n);
            if (n > 0) {
                x.remove(101, 19 + n, 102);
                x.run();
                check.due("without the last of " + n, x.told(4), 9 - n);
            }
            if (n < 9) {
                x.remove(101, 20 + n, 102);
                x.run();
                check.due("without the first beyond " + n, x.told(4), 8 - n);
            }
        }
    }

    /** "all are, without axioms or when they do not belong to them" */
    private static void allAreWithoutAxioms() {
        for (int n = 0; n <= 9; n++) {
            RdfsRules x = withMembershipFacts(1);
            x.count(n);
            x.run();
            check.due("told(4) without axioms", x.told(4), 9);
            RdfsRules y = withMembershipFacts(0);
            y.axioms(true);
            y.count(n);
            y.run();
            check.due("told(4) when they do not belong", y.told(4), 9);
            RdfsRules z = withMembershipFacts(0);
            z.count(n);
            z.run();
            check.due("told(4) without both", z.told(4), 9);
        }
    }

    /** "of that closure": not of the axioms as they are asked for since. */
    private static void membershipsOfThatClosure() {
        RdfsRules x = withMembershipFacts(1);
        x.axioms(true);
        x.count(1);
        x.run();
        check.due("told(4)", x.told(4), 8);
        x.count(9);
        check.due("told(4) after count(9)", x.told(4), 8);
        x.axioms(false);
        check.due("told(4) after axioms(false)", x.told(4), 8);
        Samples.giveTooMuch(x);
        check.dueUnsupported("run()", x::run);
        check.due("told(4) after a refused run", x.told(4), 8);
        RdfsRules y = withMembershipFacts(1);
        y.run();
        y.axioms(true);
        check.due("told(4) after axioms(true)", y.told(4), 9);
        y.run();
        check.due("told(4) after run()", y.told(4), 0);
    }

    private static void ofSixHundredRows() {
        RdfsRules x = Samples.closingTo(600);
        x.run();
        check.due("told(3) of 600 rows", x.told(3), 0);
        check.due("told(4) of 600 rows", x.told(4), 0);
    }

    /** A long closure, then one of 13 rows that has neither literals nor memberships. */
    private static void rowsOfAFormerClosureDoNotCount() {
        RdfsRules x = Samples.withLiterals(20);
        for (int i = 0; i < 20; i++) {
            x.triple(199, 20, 300 + i);
        }
        x.run();
        x.run();
        check.due("told(3) of the long one", x.told(3), 40);
        check.due("told(4) of the long one", x.told(4), 20);
        for (int i = 0; i < 20; i++) {
            x.remove(199, 20, 300 + i);
        }
        x.triple(199, 151, 199);
        for (int times = 0; times < 2; times++) {
            x.run();
            check.due("told(0)", x.told(0), 13);
            check.due("told(3)", x.told(3), 0);
            check.due("told(4)", x.told(4), 0);
        }
    }

    /** "IllegalArgumentException: .. a number is not as it may be" */
    private static void whatFromZeroToFour() {
        RdfsRules[] objects = {new RdfsRules(0), Samples.smallClosure(), Samples.full()};
        for (RdfsRules x : objects) {
            for (int what : new int[] {Integer.MIN_VALUE, -2, -1, 5, 6, Integer.MAX_VALUE}) {
                check.dueIllegalArgument("told(" + what + ")", () -> x.told(what));
            }
            check.dueThrow("told(0)", null, () -> x.told(0));
            check.dueThrow("told(4)", null, () -> x.told(4));
        }
    }

    private static void refusalsChangeNothing() {
        twins.dueIllegalArgument("told(-1)", Samples::full, x -> x.told(-1));
        twins.dueIllegalArgument("told(5)", Samples::full, x -> x.told(5));
        twins.dueIdle("told(0)", Samples::smallClosure, 21, x -> x.told(0));
    }
}
