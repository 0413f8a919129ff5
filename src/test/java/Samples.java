/** Objects in states that several tests begin with. */
final class Samples {
    private Samples() {
    }

    static final int[] WRONG_TERMS = {
        Integer.MIN_VALUE, -2, -1, 12, 19, 29, 99, 200, 299, 300, 339, 340, Integer.MAX_VALUE,
    };

    static final int[] EDGE_TERMS = {0, 11, 20, 28, 100, 199};

    /** 100 is a subclass of 101, 101 of 102, and 110 is of type 100; closed. */
    static RdfsRules smallClosure() {
        RdfsRules x = new RdfsRules(1);
        x.triple(100, 4, 101);
        x.triple(101, 4, 102);
        x.triple(110, 0, 100);
        x.run();
        return x;
    }

    static RdfsRules withLiterals(int n) {
        RdfsRules x = new RdfsRules(0);
        for (int i = 0; i < n; i++) {
            x.literal(100 + i);
        }
        return x;
    }

    static RdfsRules withFacts(int n) {
        RdfsRules x = new RdfsRules(0);
        for (int i = 0; i < n; i++) {
            x.triple(100 + i, 199, 100);
        }
        return x;
    }

    /** 40 literals, 80 given facts, axioms with five of the memberships; closed. */
    static RdfsRules full() {
        RdfsRules x = new RdfsRules(1);
        for (int i = 0; i < 40; i++) {
            x.literal(100 + i);
        }
        for (int i = 0; i < 80; i++) {
            x.triple(100 + i / 2, 150 + i % 2, 300 + i / 2);
        }
        x.axioms(true);
        x.count(5);
        x.run();
        return x;
    }

    /** Subclasses in a chain, far too many for 600 rows. */
    static void giveTooMuch(RdfsRules x) {
        for (int i = 0; i < 60; i++) {
            x.triple(100 + i, 4, 101 + i);
        }
    }

    /** The small closure, and far more given facts than the latest run could take. */
    static RdfsRules afterRefusedRun() {
        RdfsRules x = smallClosure();
        giveTooMuch(x);
        try {
            x.run();
        } catch (UnsupportedOperationException e) {
            return x;
        }
        throw new IllegalStateException("run() was not refused");
    }

    /**
     * Given facts whose closure has just so many rows, 579 or more. A chain of 32 subclasses comes
     * to 572 and the first fact of property 199 to five more; each with a new subject adds two
     * (itself and the subject's type), and one without a new term adds itself alone.
     */
    static RdfsRules closingTo(int rows) {
        RdfsRules x = new RdfsRules(1);
        for (int i = 0; i < 32; i++) {
            x.triple(100 + i, 4, 101 + i);
        }
        x.triple(150, 199, 150);
        int more = rows - 577;
        for (int i = 1; i <= more / 2; i++) {
            x.triple(150 + i, 199, 150);
        }
        if (more % 2 == 1) {
            x.triple(151, 199, 151);
        }
        return x;
    }
}
