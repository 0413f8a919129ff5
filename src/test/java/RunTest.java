/** Promise 7: run, and the section 'Terms': every rule, the order of the rows, the limit. */
public final class RunTest {
    private static final Check check = new Check();

    public static void main(String[] args) {
        oneRoundAsItIsWritten();
        everyRule();
        aFactMayBeFirstAndSecond();
        literalsAsSubjects();
        noLiteralAsProperty();
        aNewRunForgetsTheFormer();
        tooManyRowsChangeNothing();
        sixHundredRowsAreAllowed();
        check.end();
    }

    private static void oneRoundAsItIsWritten() {
        RdfsRules x = new RdfsRules(0);
        x.triple(100, 101, 102);
        check.due("run()", x.run(), 4);
        int[][] rows = {
            {100, 101, 102, -1, -1, -1, 0},
            {101, 0, 1, 1, 0, -1, 1},
            {100, 0, 2, 4, 0, -1, 1},
            {102, 0, 2, 4, 0, -1, 1},
            {0, 0, 1, 1, 1, -1, 2},
            {101, 0, 2, 4, 1, -1, 2},
            {1, 0, 2, 4, 1, -1, 2},
            {2, 0, 2, 4, 2, -1, 2},
            {101, 5, 101, 6, 1, -1, 2},
            {5, 0, 1, 1, 8, -1, 3},
            {0, 0, 2, 4, 4, -1, 3},
            {0, 5, 0, 6, 4, -1, 3},
            {5, 0, 2, 4, 9, -1, 4},
            {5, 5, 5, 6, 9, -1, 4},
        };
        check.due("told(0)", x.told(0), rows.length);
        for (int i = 0; i < rows.length; i++) {
            check.dueRow(x, i, rows[i]);
        }
    }

    private static void everyRule() {
        RdfsRules x = new RdfsRules(0);
        x.literal(140);
        x.triple(100, 101, 300);
        x.triple(101, 6, 110);
        x.triple(101, 7, 111);
        x.triple(101, 5, 102);
        x.triple(102, 5, 103);
        x.triple(120, 0, 3);
        x.triple(110, 4, 112);
        x.triple(112, 4, 113);
        x.triple(20, 0, 11);
        x.triple(140, 0, 9);
        x.triple(104, 0, 1);
        x.triple(100, 0, 110);
        x.run();
        dueMade(x, 300, 0, 140, 0, 0, -1);
        dueMade(x, 101, 0, 1, 1, 0, -1);
        dueMade(x, 300, 0, 111, 3, 2, 0);
        dueMade(x, 100, 0, 2, 4, 0, -1);
        dueMade(x, 101, 5, 103, 5, 3, 4);
        dueMade(x, 104, 5, 104, 6, 10, -1);
        dueMade(x, 100, 102, 300, 7, 3, 0);
        dueMade(x, 120, 4, 2, 8, 5, -1);
        dueMade(x, 100, 0, 112, 9, 6, 11);
        dueMade(x, 120, 4, 120, 10, 5, -1);
        dueMade(x, 110, 4, 113, 11, 6, 7);
        dueMade(x, 20, 5, 10, 12, 8, -1);
        dueMade(x, 140, 4, 8, 13, 9, -1);
        x.remove(100, 0, 110);
        x.run();
        dueMade(x, 100, 0, 110, 2, 1, 0);
    }

    /** A fact made in the first round. */
    private static void dueMade(RdfsRules x, int s, int p, int o, int rule, int first, int second) {
        int row = x.find(s, p, o);
        check.due("(" + s + " " + p + " " + o + ") is a row", row >= 0);
        if (row >= 0) {
            check.dueRow(x, row, s, p, o, rule, first, second, 1);
        }
    }

    private static void aFactMayBeFirstAndSecond() {
        RdfsRules x = new RdfsRules(0);
        x.triple(6, 6, 110);
        x.triple(7, 7, 111);
        x.triple(5, 5, 112);
        x.run();
        dueMade(x, 6, 0, 110, 2, 0, 0);
        dueMade(x, 111, 0, 111, 3, 1, 1);
        dueMade(x, 5, 112, 112, 7, 2, 2);
    }

    private static void literalsAsSubjects() {
        RdfsRules x = new RdfsRules(0);
        x.literal(9);
        x.literal(1);
        x.triple(100, 101, 300);
        x.triple(100, 101, 301);
        x.triple(101, 7, 3);
        x.run();
        check.due("rule 13", x.find(300, 4, 8) >= 0);
        check.due("rule 8", x.find(300, 4, 2) >= 0);
        check.due("rule 10", x.find(300, 4, 300) >= 0);
        check.due("rule 6", x.find(301, 5, 301) >= 0);
        check.due("no rule 6 for the other", x.find(300, 5, 300), -1);
    }

    private static void noLiteralAsProperty() {
        RdfsRules x = new RdfsRules(0);
        x.literal(150);
        x.triple(101, 5, 300);
        x.triple(100, 101, 102);
        x.run();
        check.due("(100 300 102)", x.find(100, 300, 102), -1);
        for (int row = 0; row < x.told(0); row++) {
            check.due("the property of row " + row + " is no literal", x.closed(row, 1) < 300);
        }
    }

    private static void aNewRunForgetsTheFormer() {
        RdfsRules x = Samples.smallClosure();
        int rows = x.told(0);
        check.due("the same again", x.run(), 4);
        check.due("as many rows", x.told(0), rows);
        x.remove(110, 0, 100);
        x.remove(100, 4, 101);
        x.remove(101, 4, 102);
        check.due("of nothing", x.run(), 0);
        check.due("no rows", x.told(0), 0);
        check.due("no find", x.find(100, 4, 101), -1);
    }

    private static void tooManyRowsChangeNothing() {
        RdfsRules x = Samples.smallClosure();
        int rows = x.told(0);
        Samples.giveTooMuch(x);
        x.axioms(true);
        int given = x.told(1);
        for (int times = 0; times < 3; times++) {
            check.dueThrow("run()", UnsupportedOperationException.class, x::run);
            check.due("told(0)", x.told(0), rows);
            check.due("told(1)", x.told(1), given);
            check.due("find(110, 0, 102)", x.find(110, 0, 102), 17);
            check.dueRow(x, 0, 100, 4, 101, -1, -1, -1, 0);
            check.due("trace(17)", x.trace(17), 5);
            check.due("find(120, 4, 121)", x.find(120, 4, 121), -1);
        }
        for (int i = 2; i < 60; i++) {
            x.remove(100 + i, 4, 101 + i);
        }
        x.axioms(false);
        check.due("run() when it fits again", x.run(), 4);
        check.due("told(0) when it fits again", x.told(0), rows);
    }

    /** Each further fact of property 160 adds two rows, or one without a new term: 600 exactly. */
    private static void sixHundredRowsAreAllowed() {
        RdfsRules x = new RdfsRules(0);
        for (int i = 0; i < 30; i++) {
            x.triple(100 + i, 4, 101 + i);
        }
        x.run();
        int chain = x.told(0);
        x.triple(150, 160, 151);
        x.run();
        check.due("the free property adds rows", x.told(0) > chain);
        int next = 152;
        while (x.told(0) <= 598 && next < 199) {
            x.triple(next, 160, 151);
            x.run();
            next++;
        }
        if (x.told(0) == 599) {
            x.triple(150, 160, 150);
            x.run();
        }
        check.due("told(0)", x.told(0), 600);
        check.due("the last row", x.closed(599, 6) >= 0);
        check.dueIllegalArgument("closed(600, 0)", () -> x.closed(600, 0));
        x.triple(151, 160, 151);
        check.dueThrow("one more", UnsupportedOperationException.class, x::run);
        check.due("told(0) after it", x.told(0), 600);
    }
}
