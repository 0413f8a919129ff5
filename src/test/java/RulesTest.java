/** The section 'Terms': what each rule makes and what it does not, and in which order. */
public final class RulesTest {
    private static final Check check = new Check();

    public static void main(String[] args) {
        everyRule();
        everyRuleNeedsItsTerms();
        aFactMayBeFirstAndSecond();
        subjectThenObject();
        firstFactsThenSecondOnes();
        theLowerRuleIsFirst();
        theLowerRowsAreFirst();
        rowsOfThisRoundWait();
        theFirstRowOfARoundIsUsed();
        theLastRowOfARoundIsUsed();
        ruleZeroIsForLiterals();
        literalsAsSubjects();
        noLiteralAsProperty();
        check.end();
    }

    private static void everyRule() {
        RdfsRules x = new RdfsRules(0);
        x.literal(140);
        x.triple(100, 101, 300);
        x.triple(101, 6, 110);
        x.triple(101, 7, 111);
        x.triple(101, 5, 102);
        x.triple(102, 5, 103);
        x.triple(120, 0, 3);
        x.triple(110, 4, 112);
        x.triple(112, 4, 113);
        x.triple(20, 0, 11);
        x.triple(140, 0, 9);
        x.triple(104, 0, 1);
        x.triple(100, 0, 110);
        x.run();
        dueMade(x, 300, 0, 140, 0, 0, -1);
        dueMade(x, 101, 0, 1, 1, 0, -1);
        dueMade(x, 300, 0, 111, 3, 2, 0);
        dueMade(x, 100, 0, 2, 4, 0, -1);
        dueMade(x, 101, 5, 103, 5, 3, 4);
        dueMade(x, 104, 5, 104, 6, 10, -1);
        dueMade(x, 100, 102, 300, 7, 3, 0);
        dueMade(x, 120, 4, 2, 8, 5, -1);
        dueMade(x, 100, 0, 112, 9, 6, 11);
        dueMade(x, 120, 4, 120, 10, 5, -1);
        dueMade(x, 110, 4, 113, 11, 6, 7);
        dueMade(x, 20, 5, 10, 12, 8, -1);
        dueMade(x, 140, 4, 8, 13, 9, -1);
        x.remove(100, 0, 110);
        x.run();
        dueMade(x, 100, 0, 110, 2, 1, 0);
    }

    /** A fact made in the first round. */
    private static void dueMade(RdfsRules x, int s, int p, int o, int rule, int first, int second) {
        int row = x.find(s, p, o);
        check.due("(" + s + " " + p + " " + o + ") is a row", row >= 0);
        if (row >= 0) {
            check.dueRow(x, row, s, p, o, rule, first, second, 1);
        }
    }

    /** Facts that differ by one term from what a rule takes make nothing by it. */
    private static void everyRuleNeedsItsTerms() {
        RdfsRules x = new RdfsRules(0);
        x.triple(110, 104, 3);
        x.triple(111, 104, 1);
        x.triple(112, 104, 11);
        x.triple(113, 104, 9);
        x.triple(114, 0, 4);
        x.triple(115, 0, 10);
        x.triple(116, 0, 8);
        x.triple(120, 4, 121);
        x.triple(122, 4, 123);
        x.triple(130, 5, 131);
        x.triple(132, 5, 133);
        x.triple(140, 6, 141);
        x.triple(142, 7, 143);
        x.triple(150, 104, 120);
        x.run();
        // Rule 1 names the six properties used, rule 6 each of them, rule 4 each of the 33 terms.
        int[] made = {0, 6, 0, 0, 33, 0, 6, 0, 0, 0, 0, 0, 0, 0};
        for (int r = 0; r < made.length; r++) {
            check.due("rule(" + r + ")", x.rule(r), made[r]);
        }
    }

    private static void aFactMayBeFirstAndSecond() {
        RdfsRules x = new RdfsRules(0);
        x.triple(6, 6, 110);
        x.triple(7, 7, 111);
        x.triple(5, 5, 112);
        x.run();
        dueMade(x, 6, 0, 110, 2, 0, 0);
        dueMade(x, 111, 0, 111, 3, 1, 1);
        dueMade(x, 5, 112, 112, 7, 2, 2);
    }

    /** "(s p o): (s 0 2), then (o 0 2)", and once only if they are the same. */
    private static void subjectThenObject() {
        RdfsRules x = new RdfsRules(0);
        x.triple(102, 101, 100);
        x.run();
        check.dueRow(x, 2, 102, 0, 2, 4, 0, -1, 1);
        check.dueRow(x, 3, 100, 0, 2, 4, 0, -1, 1);
        RdfsRules y = new RdfsRules(0);
        y.triple(100, 101, 100);
        y.run();
        check.dueRow(y, 2, 100, 0, 2, 4, 0, -1, 1);
        check.dueRow(y, 3, 0, 0, 1, 1, 1, -1, 2);
    }

    /** "first facts by their rows, for each second ones by theirs" */
    private static void firstFactsThenSecondOnes() {
        RdfsRules x = new RdfsRules(0);
        x.triple(110, 4, 112);
        x.triple(110, 4, 111);
        x.triple(121, 0, 110);
        x.triple(120, 0, 110);
        x.run();
        check.dueRow(x, 11, 121, 0, 112, 9, 0, 2, 1);
        check.dueRow(x, 12, 120, 0, 112, 9, 0, 3, 1);
        check.dueRow(x, 13, 121, 0, 111, 9, 1, 2, 1);
        check.dueRow(x, 14, 120, 0, 111, 9, 1, 3, 1);
    }

    /** "by rule 0, then 1 and so on": what two rules make in a round is the first one's. */
    private static void theLowerRuleIsFirst() {
        RdfsRules x = new RdfsRules(0);
        x.triple(110, 4, 111);
        x.triple(120, 0, 110);
        x.triple(101, 7, 111);
        x.triple(101, 6, 111);
        x.triple(120, 101, 120);
        x.run();
        dueMade(x, 120, 0, 111, 2, 3, 4);
        x.remove(101, 6, 111);
        x.run();
        dueMade(x, 120, 0, 111, 3, 2, 3);
        x.remove(101, 7, 111);
        x.run();
        dueMade(x, 120, 0, 111, 9, 0, 1);
    }

    /** What two pairs of facts make by one rule is the first pair's. */
    private static void theLowerRowsAreFirst() {
        RdfsRules x = new RdfsRules(0);
        x.triple(120, 0, 113);
        x.triple(113, 4, 111);
        x.triple(112, 4, 111);
        x.triple(120, 0, 112);
        x.run();
        dueMade(x, 120, 0, 111, 9, 1, 0);
        RdfsRules y = new RdfsRules(0);
        y.triple(101, 6, 110);
        y.triple(120, 101, 131);
        y.triple(120, 101, 130);
        y.run();
        dueMade(y, 120, 0, 110, 2, 0, 1);
    }

    /** "of the rows that there were when it began": a chain is not gone through at once. */
    private static void rowsOfThisRoundWait() {
        RdfsRules x = new RdfsRules(0);
        x.triple(120, 0, 110);
        x.triple(110, 4, 111);
        x.triple(111, 4, 112);
        x.run();
        check.due("(120 0 111) is of round", x.closed(x.find(120, 0, 111), 6), 1);
        check.due("(120 0 112) is of round", x.closed(x.find(120, 0, 112), 6), 2);
        check.due("(110 4 112) is of round", x.closed(x.find(110, 4, 112), 6), 1);
        check.due("the first fact of (120 0 112)", x.closed(x.find(120, 0, 112), 4), 2);
    }

    /** All that follows is given but for two facts, of which the one is made of the other. */
    private static void theFirstRowOfARoundIsUsed() {
        RdfsRules all = new RdfsRules(0);
        all.triple(110, 0, 9);
        all.triple(120, 0, 110);
        all.run();
        RdfsRules x = new RdfsRules(0);
        int rows = all.told(0);
        for (int row = 0; row < rows; row++) {
            if (row != all.find(110, 4, 8) && row != all.find(120, 0, 8)) {
                x.triple(all.closed(row, 0), all.closed(row, 1), all.closed(row, 2));
            }
        }
        check.due("run()", x.run(), 2);
        check.due("told(0)", x.told(0), rows);
        check.dueRow(x, rows - 2, 110, 4, 8, 13, 0, -1, 1);
        check.dueRow(x, rows - 1, 120, 0, 8, 9, rows - 2, 1, 2);
    }

    /** Rule 13 is the last of the first round, and what it made is used in the second. */
    private static void theLastRowOfARoundIsUsed() {
        RdfsRules x = new RdfsRules(0);
        x.triple(110, 0, 9);
        x.triple(120, 0, 110);
        x.run();
        int row = x.find(110, 4, 8);
        check.due("the round of (110 4 8)", x.closed(row, 6), 1);
        check.due("the next row's round", x.closed(row + 1, 6), 2);
        int made = x.find(120, 0, 8);
        check.dueRow(x, made, 120, 0, 8, 9, row, 1, 2);
    }

    /** "x a literal of type t": the highest name is none. */
    private static void ruleZeroIsForLiterals() {
        RdfsRules x = Samples.withLiterals(1);
        x.triple(101, 102, 199);
        x.triple(101, 102, 103);
        x.run();
        check.due("rule(0) without a literal", x.rule(0), 0);
        x.triple(101, 102, 300);
        x.run();
        check.due("rule(0) with one", x.rule(0), 1);
        dueMade(x, 300, 0, 100, 0, 2, -1);
    }

    /** "(What is made may have a literal as its subject.)" */
    private static void literalsAsSubjects() {
        RdfsRules x = new RdfsRules(0);
        x.literal(9);
        x.literal(1);
        x.triple(100, 101, 300);
        x.triple(100, 101, 301);
        x.triple(101, 7, 3);
        x.run();
        dueMade(x, 300, 0, 2, 4, 0, -1);
        dueMade(x, 300, 0, 3, 3, 2, 0);
        check.due("rule 13", x.find(300, 4, 8) >= 0);
        check.due("rule 8", x.find(300, 4, 2) >= 0);
        check.due("rule 10", x.find(300, 4, 300) >= 0);
        check.due("rule 6", x.find(301, 5, 301) >= 0);
        check.due("no rule 6 for the other", x.find(300, 5, 300), -1);
    }

    /** "(s q o), if q is no literal": the highest name is taken, the first literal is not. */
    private static void noLiteralAsProperty() {
        RdfsRules x = new RdfsRules(0);
        x.literal(150);
        x.triple(101, 5, 300);
        x.triple(101, 5, 199);
        x.triple(100, 101, 102);
        x.run();
        check.due("(100 300 102)", x.find(100, 300, 102), -1);
        dueMade(x, 100, 199, 102, 7, 1, 2);
        int rows = x.told(0);
        for (int row = 0; row < rows; row++) {
            check.due("the property of row " + row + " is no literal", x.closed(row, 1) < 300);
        }
    }
}
