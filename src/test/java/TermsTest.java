import java.util.stream.IntStream;

/** The section 'Terms': which numbers are terms, in every place of every call that takes one. */
public final class TermsTest {
    private static final Check check = new Check();

    public static void main(String[] args) {
        int[] literalsMade = {0, 1, 39, 40};
        int[] numbers = IntStream.concat(IntStream.rangeClosed(-3, 345),
            IntStream.of(Integer.MIN_VALUE, Integer.MIN_VALUE + 300, 1000, Integer.MAX_VALUE)).toArray();
        for (int made : literalsMade) {
            for (int number : numbers) {
                asType(made, number);
                asPartOfTriple(made, number);
                asPartOfRemove(made, number);
            }
        }
        check.end();
    }

    /** "0 TYPE, .. 11 CONTAINER; 20 .. 28 are the MEMBERSHIPS; 100 .. 199 are names" */
    private static boolean isNoLiteral(int number) {
        return 0 <= number && number <= 11 || 20 <= number && number <= 28 || 100 <= number && number <= 199;
    }

    /** "300 .. 339 are the LITERALS that were made", "a literal that was not made is none" */
    private static boolean isMadeLiteral(int made, int number) {
        return 300 <= number && number <= 299 + made;
    }

    /** "each of a term that is its type", which is no literal itself. */
    private static void asType(int made, int number) {
        RdfsRules x = Samples.withLiterals(made);
        String what = "literal(" + number + ") when there are " + made;
        if (!isNoLiteral(number)) {
            check.dueIllegalArgument(what, () -> x.literal(number));
        } else if (made == 40) {
            check.dueIllegalState(what, () -> x.literal(number));
        } else {
            check.due(what, x.literal(number), 300 + made);
        }
    }

    /** "A FACT is a subject (no literal), a property (no literal) and an object." */
    private static void asPartOfTriple(int made, int number) {
        boolean object = isNoLiteral(number) || isMadeLiteral(made, number);
        dueTriple(made, isNoLiteral(number), number, 100, 100);
        dueTriple(made, isNoLiteral(number), 100, number, 100);
        dueTriple(made, object, 100, 100, number);
    }

    private static void dueTriple(int made, boolean taken, int s, int p, int o) {
        RdfsRules x = Samples.withLiterals(made);
        String what = "triple(" + s + ", " + p + ", " + o + ") with " + made + " literals";
        if (taken) {
            check.due(what, x.triple(s, p, o), 1);
        } else {
            check.dueIllegalArgument(what, () -> x.triple(s, p, o));
            check.due("told(1) after " + what, x.told(1), 0);
        }
    }

    /** "IllegalArgumentException: as with triple()" */
    private static void asPartOfRemove(int made, int number) {
        boolean object = isNoLiteral(number) || isMadeLiteral(made, number);
        dueRemove(made, isNoLiteral(number), number, 100, 100);
        dueRemove(made, isNoLiteral(number), 100, number, 100);
        dueRemove(made, object, 100, 100, number);
    }

    private static void dueRemove(int made, boolean taken, int s, int p, int o) {
        RdfsRules x = Samples.withLiterals(made);
        String what = "remove(" + s + ", " + p + ", " + o + ") with " + made + " literals";
        if (taken) {
            check.due(what, x.remove(s, p, o), 0);
        } else {
            check.dueIllegalArgument(what, () -> x.remove(s, p, o));
        }
    }
}
