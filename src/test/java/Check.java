/** Counts the answers that are not as due and ends a test with exit code 1 if there are any. */
final class Check {
    private int wrong = 0;

    void due(String what, int got, int want) {
        if (got != want) {
            wrong++;
            System.out.println(what + " answered " + got + ", due is " + want);
        }
    }

    void due(String what, boolean got) {
        if (!got) {
            wrong++;
            System.out.println(what + " does not hold");
        }
    }

    /** The very class counts: an exception of a class below it is not the one that is due. */
    void dueThrow(String what, Class<? extends RuntimeException> want, Runnable call) {
        Class<?> got = null;
        try {
            call.run();
        } catch (RuntimeException e) {
            got = e.getClass();
        }
        if (got != want) {
            wrong++;
            System.out.println(what + " threw " + got + ", due is " + want);
        }
    }

    void dueIllegalArgument(String what, Runnable call) {
        dueThrow(what, IllegalArgumentException.class, call);
    }

    void dueIllegalState(String what, Runnable call) {
        dueThrow(what, IllegalStateException.class, call);
    }

    void dueUnsupported(String what, Runnable call) {
        dueThrow(what, UnsupportedOperationException.class, call);
    }

    /** One row of the latest closure, all seven parts of it. */
    void dueRow(RdfsRules x, int row, int... want) {
        for (int what = 0; what < 7; what++) {
            due("closed(" + row + ", " + what + ")", x.closed(row, what), want[what]);
        }
    }

    void end() {
        if (wrong != 0) {
            System.out.println(wrong + " answers are not as due");
            System.exit(1);
        }
    }
}
