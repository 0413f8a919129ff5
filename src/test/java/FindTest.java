/** Promise 9: find. */
public final class FindTest {
    private static final Check check = new Check();
    private static final Twins twins = new Twins(check);
    private static final int[] ODD = {
        Integer.MIN_VALUE, -2, -1, 12, 19, 29, 99, 200, 299, 300, 339, 340, 600, 1024, 1000003, Integer.MAX_VALUE,
    };

    public static void main(String[] args) {
        everyRowIsFound(Samples.smallClosure());
        everyRowIsFound(allAxioms());
        theSixHundredthRow();
        allThreePartsCount();
        nothingIsFoundInNothing();
        anyNumbersAreAllowed();
        literalsAreFound();
        ofTheLatestClosure();
        askingChangesNothing();
        check.end();
    }

    private static RdfsRules allAxioms() {
        RdfsRules x = new RdfsRules(1);
        x.axioms(true);
        x.run();
        return x;
    }

    /** "The row of a fact in it", the first and the last too. */
    private static void everyRowIsFound(RdfsRules x) {
        int rows = x.told(0);
        for (int row = 0; row < rows; row++) {
            int found = x.find(x.closed(row, 0), x.closed(row, 1), x.closed(row, 2));
            check.due("find of row " + row, found, row);
        }
    }

    /** All rows of a full closure, asked of six objects, since one has but 512 calls. */
    private static void theSixHundredthRow() {
        for (int part = 0; part < 6; part++) {
            RdfsRules x = Samples.closingTo(600);
            x.run();
            for (int row = part * 100; row < part * 100 + 100; row++) {
                int found = x.find(x.closed(row, 0), x.closed(row, 1), x.closed(row, 2));
                check.due("find of row " + row + " of 600", found, row);
            }
            check.due("the last", x.find(100, 4, 132), 599);
            check.due("what is no row", x.find(132, 4, 100), -1);
        }
    }

    /** "NONE for none": a fact that differs from a row in one part is none. */
    private static void allThreePartsCount() {
        RdfsRules x = Samples.smallClosure();
        check.due("row 0", x.find(100, 4, 101), 0);
        check.due("another subject", x.find(102, 4, 101), RdfsRules.NONE);
        check.due("another property", x.find(100, 5, 101), RdfsRules.NONE);
        check.due("another object", x.find(100, 4, 103), RdfsRules.NONE);
        check.due("turned round", x.find(101, 4, 100), RdfsRules.NONE);
        check.due("parts in another order", x.find(4, 100, 101), RdfsRules.NONE);
    }

    private static void nothingIsFoundInNothing() {
        RdfsRules x = new RdfsRules(1);
        for (int times = 0; times < 2; times++) {
            check.due("(0 0 0)", x.find(0, 0, 0), RdfsRules.NONE);
            check.due("(0 0 1)", x.find(0, 0, 1), RdfsRules.NONE);
            check.due("(-1 -1 -1)", x.find(-1, -1, -1), RdfsRules.NONE);
            x.run();
        }
        RdfsRules y = Samples.withFacts(80);
        check.due("a given fact before run()", y.find(100, 199, 100), RdfsRules.NONE);
        y.run();
        check.due("the first after run()", y.find(100, 199, 100), 0);
        check.due("the last after run()", y.find(179, 199, 100), 79);
    }

    /** "(any numbers)": nothing is thrown, whatever there is. */
    private static void anyNumbersAreAllowed() {
        RdfsRules[] objects = {new RdfsRules(0), allAxioms(), Samples.full(), Samples.closingTo(600)};
        objects[3].run();
        for (RdfsRules x : objects) {
            for (int a : ODD) {
                check.due("subject " + a, x.find(a, 6, 2), RdfsRules.NONE);
                check.due("property " + a, x.find(0, a, 1), RdfsRules.NONE);
                check.due("object " + a, x.find(0, 0, a), RdfsRules.NONE);
                check.due("all " + a, x.find(a, a, a), RdfsRules.NONE);
            }
        }
        check.due("numbers that wrap round", allAxioms().find(0, 0, 1 + (1 << 31)), RdfsRules.NONE);
    }

    private static void literalsAreFound() {
        RdfsRules x = Samples.withLiterals(2);
        x.triple(100, 101, 301);
        check.due("before run()", x.find(100, 101, 301), -1);
        x.run();
        check.due("as object", x.find(100, 101, 301), 0);
        check.due("as subject", x.find(301, 0, 101), 1);
        check.due("one that is in no fact", x.find(300, 0, 100), -1);
        check.due("one that was not made", x.find(302, 0, 102), -1);
    }

    /** "in it": in the latest closure, neither in a former one nor in what was given since. */
    private static void ofTheLatestClosure() {
        RdfsRules x = Samples.smallClosure();
        x.triple(102, 4, 103);
        x.remove(100, 4, 101);
        check.due("given since", x.find(102, 4, 103), -1);
        check.due("removed since", x.find(100, 4, 101), 0);
        x.run();
        check.due("given before", x.find(102, 4, 103), 2);
        check.due("removed before", x.find(100, 4, 101), -1);
        check.due("what followed of it", x.find(110, 0, 102), -1);
        RdfsRules y = Samples.afterRefusedRun();
        check.due("a row before a refused run", y.find(110, 0, 102), 17);
        check.due("what the refused run had", y.find(102, 4, 103), -1);
    }

    private static void askingChangesNothing() {
        twins.dueIdle("a row", Samples::smallClosure, 20, x -> x.find(5, 5, 5));
        twins.dueIdle("no row", Samples::full, -1, x -> x.find(340, 340, 340));
    }
}
