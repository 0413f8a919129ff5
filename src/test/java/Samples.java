/** Objects in states that several tests begin with. */
final class Samples {
    private Samples() {
    }

    static final int[] WRONG_TERMS = {
        Integer.MIN_VALUE, -2, -1, 12, 19, 29, 99, 200, 299, 300, 339, 340, Integer.MAX_VALUE,
    };

    static final int[] EDGE_TERMS = {0, 11, 20, 28, 100, 199};

    /** 100 is a subclass of 101, 101 of 102, and 110 is of type 100; closed. */
    static RdfsRules smallClosure() {
        RdfsRules x = new RdfsRules(1);
        x.triple(100, 4, 101);
        x.triple(101, 4, 102);
        x.triple(110, 0, 100);
        x.run();
        return x;
    }

    static RdfsRules withLiterals(int n) {
        RdfsRules x = new RdfsRules(0);
        for (int i = 0; i < n; i++) {
            x.literal(100 + i);
        }
        return x;
    }

    static RdfsRules withFacts(int n) {
        RdfsRules x = new RdfsRules(0);
        for (int i = 0; i < n; i++) {
            x.triple(100 + i, 199, 100);
        }
        return x;
    }

    /** Subclasses in a chain, far too many for 600 rows. */
    static void giveTooMuch(RdfsRules x) {
        for (int i = 0; i < 60; i++) {
            x.triple(100 + i, 4, 101 + i);
        }
    }
}
