import java.util.function.Consumer;
import java.util.function.Supplier;

/** "A call that throws changes nothing": every call that can be refused, in every kind of state. */
public final class RefusedTest {
    private static final Check check = new Check();
    private static final Twins twins = new Twins(check);

    public static void main(String[] args) {
        everyRefusalIn("a new object", () -> new RdfsRules(1));
        everyRefusalIn("a small closure", Samples::smallClosure);
        everyRefusalIn("facts without a run", () -> Samples.withFacts(3));
        everyRefusalIn("a full object", Samples::full);
        everyRefusalIn("an object after a refused run", Samples::afterRefusedRun);
        everyRefusalIn("a closure of 600 rows", RefusedTest::sixHundredRows);
        everyRefusalIn("axioms with memberships", RefusedTest::axiomsOfThree);
        fullnessRefuses();
        aRunIsRefused();
        check.end();
    }

    private static RdfsRules sixHundredRows() {
        RdfsRules x = Samples.closingTo(600);
        x.run();
        return x;
    }

    private static RdfsRules axiomsOfThree() {
        RdfsRules x = new RdfsRules(-1);
        x.literal(9);
        x.triple(100, 22, 300);
        x.triple(100, 23, 300);
        x.axioms(true);
        x.count(3);
        x.run();
        return x;
    }

    private static void everyRefusalIn(String state, Supplier<RdfsRules> maker) {
        int rows = maker.get().told(0);
        int literals = maker.get().told(2);
        int[] noTerms = {Integer.MIN_VALUE, -1, 12, 19, 29, 99, 200, 299, 300 + literals, 340, Integer.MAX_VALUE};
        for (int n : noTerms) {
            refuse(state, "literal(" + n + ")", maker, x -> x.literal(n));
            refuseFact(state, maker, n, 100, 100);
            refuseFact(state, maker, 100, n, 100);
            refuseFact(state, maker, 100, 100, n);
        }
        // A literal, made or not, is neither type, subject nor property.
        for (int n : new int[] {300, 299 + literals, 339}) {
            refuse(state, "literal(" + n + ")", maker, x -> x.literal(n));
            refuseFact(state, maker, n, 100, 100);
            refuseFact(state, maker, 100, n, 100);
        }
        for (int n : new int[] {Integer.MIN_VALUE, -1, 10, Integer.MAX_VALUE}) {
            refuse(state, "count(" + n + ")", maker, x -> x.count(n));
        }
        for (int i : new int[] {Integer.MIN_VALUE, -1, rows, 600, Integer.MAX_VALUE}) {
            refuse(state, "closed(" + i + ", 0)", maker, x -> x.closed(i, 0));
            refuse(state, "trace(" + i + ")", maker, x -> x.trace(i));
            refuse(state, "proof(" + i + ", 0)", maker, x -> x.proof(i, 0));
        }
        for (int n : new int[] {-1, 7}) {
            refuse(state, "closed(0, " + n + ")", maker, x -> x.closed(0, n));
        }
        for (int n : new int[] {-1, 14}) {
            refuse(state, "rule(" + n + ")", maker, x -> x.rule(n));
        }
        for (int n : new int[] {-1, 5}) {
            refuse(state, "told(" + n + ")", maker, x -> x.told(n));
        }
    }

    private static void refuse(String state, String what, Supplier<RdfsRules> maker, Consumer<RdfsRules> call) {
        twins.dueIllegalArgument(state + ": " + what, maker, call);
    }

    private static void refuseFact(String state, Supplier<RdfsRules> maker, int s, int p, int o) {
        String fact = "(" + s + ", " + p + ", " + o + ")";
        refuse(state, "triple" + fact, maker, x -> x.triple(s, p, o));
        refuse(state, "remove" + fact, maker, x -> x.remove(s, p, o));
    }

    private static void fullnessRefuses() {
        Class<IllegalStateException> full = IllegalStateException.class;
        twins.dueRefusal("a 41st literal", Samples::full, full, x -> x.literal(100));
        twins.dueRefusal("an 81st fact", Samples::full, full, x -> x.triple(100, 100, 100));
    }

    private static void aRunIsRefused() {
        Class<UnsupportedOperationException> tooMany = UnsupportedOperationException.class;
        twins.dueRefusal("run() of 601 rows", () -> Samples.closingTo(601), tooMany, RdfsRules::run);
        twins.dueRefusal("run() again", Samples::afterRefusedRun, tooMany, RdfsRules::run);
        twins.dueRefusal("run() after a closure of 600 rows", RefusedTest::grownBeyondSixHundred, tooMany,
            RdfsRules::run);
        twins.dueRefusal("run() after other axioms were asked for", RefusedTest::axiomsOffBeyondSixHundred,
            tooMany, RdfsRules::run);
    }

    private static RdfsRules grownBeyondSixHundred() {
        RdfsRules x = sixHundredRows();
        x.triple(150, 199, 151);
        return x;
    }

    /** The latest closure is of axioms with three memberships, the next would be of none. */
    private static RdfsRules axiomsOffBeyondSixHundred() {
        RdfsRules x = axiomsOfThree();
        x.axioms(false);
        x.count(7);
        Samples.giveTooMuch(x);
        return x;
    }
}
