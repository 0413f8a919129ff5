/** Promise 1: a new object has nothing, and tells whether memberships belong to the axioms. */
public final class NewObjectTest {
    private static final Check check = new Check();

    public static void main(String[] args) {
        startsEmpty(new RdfsRules(0));
        startsEmpty(new RdfsRules(1));
        startsEmpty(new RdfsRules(Integer.MIN_VALUE));
        membershipsAreNineOrNone();
        check.due("NONE", RdfsRules.NONE, -1);
        check.due("AXIOM", RdfsRules.AXIOM, -2);
        check.end();
    }

    private static void startsEmpty(RdfsRules x) {
        for (int what = 0; what <= 4; what++) {
            check.due("told(" + what + ")", x.told(what), 0);
        }
        for (int r = 0; r <= 13; r++) {
            check.due("rule(" + r + ")", x.rule(r), 0);
        }
        check.due("find(0, 0, 1)", x.find(0, 0, 1), -1);
        check.due("find(0, 0, 0)", x.find(0, 0, 0), -1);
        check.dueIllegalArgument("closed(0, 0)", () -> x.closed(0, 0));
        check.due("remove(0, 0, 1): no axioms are asked for", x.remove(0, 0, 1), 0);
        check.due("run()", x.run(), 0);
        check.due("told(0) after run()", x.told(0), 0);
        check.dueIllegalArgument("triple with a literal", () -> x.triple(100, 100, 300));
    }

    private static void membershipsAreNineOrNone() {
        int[] told = {0, 1, -1, 9, 3, Integer.MAX_VALUE, Integer.MIN_VALUE};
        for (int memberships : told) {
            RdfsRules x = new RdfsRules(memberships);
            x.axioms(true);
            int want = memberships == 0 ? 0 : 2;
            check.due("remove(20, 0, 11) with " + memberships, x.remove(20, 0, 11), want);
            check.due("remove(28, 7, 2) with " + memberships, x.remove(28, 7, 2), want);
            check.due("remove(28, 7, 3) with " + memberships, x.remove(28, 7, 3), 0);
        }
    }
}
