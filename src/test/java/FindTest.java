/** Promise 9: find. */
public final class FindTest {
    private static final Check check = new Check();

    public static void main(String[] args) {
        everyRowIsFound(Samples.smallClosure());
        RdfsRules x = new RdfsRules(1);
        x.axioms(true);
        x.run();
        everyRowIsFound(x);
        anyNumbersAreAllowed(x);
        literalsAreFound();
        check.end();
    }

    /** Every second row of a long closure, since an object must not answer more than 512 calls. */
    private static void everyRowIsFound(RdfsRules x) {
        int rows = x.told(0);
        int step = rows > 100 ? 2 : 1;
        for (int row = 0; row < rows; row += step) {
            int found = x.find(x.closed(row, 0), x.closed(row, 1), x.closed(row, 2));
            check.due("find of row " + row, found, row);
        }
        check.due("what is no row", x.find(100, 100, 100), -1);
        check.due("turned round", x.find(1, 0, 100), -1);
    }

    private static void anyNumbersAreAllowed(RdfsRules x) {
        int[] odd = {Integer.MIN_VALUE, -1, 12, 99, 300, 340, 1000003, Integer.MAX_VALUE};
        for (int a : odd) {
            check.due("subject " + a, x.find(a, 0, 1), -1);
            check.due("property " + a, x.find(0, a, 1), -1);
            check.due("object " + a, x.find(0, 0, a), -1);
            check.due("all " + a, x.find(a, a, a), -1);
        }
    }

    private static void literalsAreFound() {
        RdfsRules x = Samples.withLiterals(2);
        x.triple(100, 101, 301);
        check.due("before run()", x.find(100, 101, 301), -1);
        x.run();
        check.due("as object", x.find(100, 101, 301), 0);
        check.due("as subject", x.find(301, 0, 101), 1);
        check.due("one that is in no fact", x.find(300, 0, 100), -1);
    }
}
