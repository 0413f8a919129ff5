import java.util.ArrayList;
import java.util.List;
import java.util.function.Consumer;
import java.util.function.IntSupplier;
import java.util.function.Supplier;
import java.util.function.ToIntFunction;

/**
 * Two objects of the same calls, one of which then has one call more that must change nothing:
 * all that is asked of both afterwards must be answered alike.
 */
final class Twins {
    /** With the calls of a maker, which are fewer than 130, an object stays within its 512. */
    private static final int MOST_QUESTIONS = 380;
    private static final int SAMPLED_ROWS = 8;

    private final Check check;

    Twins(Check check) {
        this.check = check;
    }

    void dueRefusal(String what, Supplier<RdfsRules> maker, Class<? extends RuntimeException> want,
        Consumer<RdfsRules> call) {
        RdfsRules tried = maker.get();
        check.dueThrow(what, want, () -> call.accept(tried));
        compare(what, tried, maker.get());
    }

    void dueIllegalArgument(String what, Supplier<RdfsRules> maker, Consumer<RdfsRules> call) {
        dueRefusal(what, maker, IllegalArgumentException.class, call);
    }

    /** For a call that is answered, but changes nothing. */
    void dueIdle(String what, Supplier<RdfsRules> maker, int want, ToIntFunction<RdfsRules> call) {
        RdfsRules tried = maker.get();
        check.due(what, call.applyAsInt(tried), want);
        compare(what, tried, maker.get());
    }

    void compare(String what, RdfsRules tried, RdfsRules untouched) {
        List<String> got = answers(tried);
        List<String> want = answers(untouched);
        check.due(what + ": the questions are few enough", want.size() <= MOST_QUESTIONS);
        check.due(what + ": as many answers", got.size(), want.size());
        for (int i = 0; i < Math.min(got.size(), want.size()); i++) {
            check.due(what + ": afterwards " + got.get(i) + ", due is " + want.get(i),
                got.get(i).equals(want.get(i)));
        }
    }

    private static List<String> answers(RdfsRules x) {
        List<String> answers = new ArrayList<>();
        askClosure(answers, x);
        note(answers, "run()", x::run);
        askClosure(answers, x);
        if (answers.contains("run() UnsupportedOperationException")) {
            for (int i = 10; i < 60; i++) {
                int s = 100 + i;
                note(answers, "remove(" + s + ", 4, ..)", () -> x.remove(s, 4, s + 1));
            }
            note(answers, "run() of fewer facts", x::run);
            askClosure(answers, x);
        }
        askWhatNoRowShows(answers, x);
        return answers;
    }

    private static void askClosure(List<String> answers, RdfsRules x) {
        for (int what = 0; what <= 4; what++) {
            int w = what;
            note(answers, "told(" + w + ")", () -> x.told(w));
        }
        for (int rule = 0; rule <= 13; rule++) {
            int r = rule;
            note(answers, "rule(" + r + ")", () -> x.rule(r));
        }
        int last = x.told(0) - 1;
        int samples = Math.min(last + 1, SAMPLED_ROWS);
        for (int n = 0; n < samples; n++) {
            askRow(answers, x, samples == 1 ? 0 : n * last / (samples - 1));
        }
    }

    private static void askRow(List<String> answers, RdfsRules x, int row) {
        for (int what = 0; what <= 6; what++) {
            int w = what;
            note(answers, "closed(" + row + ", " + w + ")", () -> x.closed(row, w));
        }
        note(answers, "trace(" + row + ")", () -> x.trace(row));
        note(answers, "proof(" + row + ", 0)", () -> x.proof(row, 0));
    }

    /** Whether axioms are asked for, of how many memberships, and what room there is. */
    private static void askWhatNoRowShows(List<String> answers, RdfsRules x) {
        note(answers, "remove(7, 7, 3)", () -> x.remove(7, 7, 3));
        x.axioms(true);
        for (int membership = 20; membership <= 28; membership++) {
            int m = membership;
            note(answers, "remove(" + m + ", 7, 2)", () -> x.remove(m, 7, 2));
        }
        note(answers, "literal(199)", () -> x.literal(199));
        note(answers, "triple(199, 198, 197)", () -> x.triple(199, 198, 197));
    }

    /** No other exception than the document's is an answer: it ends the test. */
    private static void note(List<String> answers, String call, IntSupplier asked) {
        String answer;
        try {
            answer = String.valueOf(asked.getAsInt());
        } catch (IllegalArgumentException | IllegalStateException | UnsupportedOperationException e) {
            answer = e.getClass().getSimpleName();
        }
        answers.add(call + " " + answer);
    }
}
