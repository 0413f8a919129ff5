import java.util.ArrayList;
import java.util.HashMap;
import java.util.List;
import java.util.Map;
import java.util.TreeSet;
import java.util.function.Consumer;

/**
 * The rules read word for word (every rule over every pair in every round) beside the class, on
 * many states that a fixed row of numbers chooses.
 */
public final class ReferenceTest {
    private static final Check check = new Check();
    private static final int LIMIT = 600;
    private static final int[][] AXIOMS = {
        {0, 0, 1}, {0, 6, 2}, {0, 7, 3}, {6, 6, 1}, {6, 7, 3}, {7, 6, 1}, {7, 7, 3}, {5, 6, 1},
        {5, 7, 1}, {4, 6, 3}, {4, 7, 3}, {10, 6, 2}, {10, 7, 2}, {11, 4, 1}, {9, 4, 3},
    };

    private static long state = 1;
    private static int closedRuns = 0;
    private static int refusedRuns = 0;
    private static int mostRounds = 0;

    public static void main(String[] args) {
        for (int n = 0; n < 400; n++) {
            oneObject(n);
        }
        check.due("some runs were refused", refusedRuns > 20);
        check.due("many runs were not", closedRuns > 400);
        check.due("some took many rounds", mostRounds > 5);
        check.end();
    }

    private static int next(int bound) {
        state = state * 6364136223846793005L + 1442695040888963407L;
        return (int) ((state >>> 33) % bound);
    }

    private static void oneObject(int n) {
        int memberships = next(3) - 1;
        Player x = new Player(memberships);
        Reference want = new Reference();
        List<int[]> given = new ArrayList<>();
        List<Integer> types = new ArrayList<>();
        boolean on = false;
        int count = 9;
        for (int turn = 0; turn < 5; turn++) {
            changeLiterals(x, types);
            changeFacts(x, given, types.size());
            if (next(3) == 0) {
                on = !on;
                boolean asked = on;
                x.play(y -> y.axioms(asked));
            }
            if (next(3) == 0) {
                count = next(10);
                int told = count;
                x.play(y -> y.count(told));
            }
            int inAxioms = on && memberships != 0 ? count : 0;
            String what = "object " + n + " turn " + turn + ": ";
            want = compareRun(what, x, want, new Reference(on, inAxioms, given, types));
            compareAnswers(what, x, want);
            check.due(what + "told(1)", x.ask().told(1), given.size());
            check.due(what + "told(2)", x.ask().told(2), types.size());
        }
    }

    private static int nonLiteral() {
        int kind = next(10);
        return kind < 5 ? next(12) : kind < 6 ? 20 + next(9) : 100 + next(6);
    }

    private static int property() {
        int[] common = {0, 0, 4, 4, 5, 5, 6, 7};
        return next(4) == 0 ? nonLiteral() : common[next(common.length)];
    }

    private static void changeLiterals(Player x, List<Integer> types) {
        if (next(2) == 0) {
            int type = nonLiteral();
            types.add(type);
            int want = 299 + types.size();
            x.play(y -> check.due("literal", y.literal(type), want));
        }
    }

    private static void changeFacts(Player x, List<int[]> given, int literals) {
        int more = next(5) == 0 ? 12 : 3;
        for (int i = 0; i < more; i++) {
            int o = literals > 0 && next(4) == 0 ? 300 + next(literals) : nonLiteral();
            int[] fact = {nonLiteral(), property(), o};
            if (placeOf(given, fact) < 0) {
                given.add(fact);
            }
            int want = given.size();
            x.play(y -> check.due("triple", y.triple(fact[0], fact[1], fact[2]), want));
        }
        if (next(3) == 0) {
            int[] gone = given.remove(next(given.size()));
            x.play(y -> check.due("remove", y.remove(gone[0], gone[1], gone[2]), 1));
        }
    }

    private static int placeOf(List<int[]> facts, int[] fact) {
        for (int i = 0; i < facts.size(); i++) {
            int[] f = facts.get(i);
            if (f[0] == fact[0] && f[1] == fact[1] && f[2] == fact[2]) {
                return i;
            }
        }
        return -1;
    }

    /** The closure that holds after the run: the former one, if the new one is too large. */
    private static Reference compareRun(String what, Player x, Reference former, Reference now) {
        if (now.rows.size() > LIMIT) {
            x.play(y -> check.dueThrow(what + "run()", UnsupportedOperationException.class, y::run));
            refusedRuns++;
            return former;
        }
        x.play(y -> check.due(what + "run()", y.run(), now.rounds));
        closedRuns++;
        mostRounds = Math.max(mostRounds, now.rounds);
        return now;
    }

    private static void compareAnswers(String what, Player x, Reference want) {
        int size = want.rows.size();
        int got = x.ask().told(0);
        check.due(what + "told(0)", got, size);
        if (got != size) {
            return;
        }
        int[] byRule = new int[14];
        int literalSubjects = 0;
        int beyond = 0;
        for (int i = 0; i < size; i++) {
            int[] row = want.rows.get(i);
            for (int part = 0; part < 7; part++) {
                check.due(what + "closed(" + i + ", " + part + ")", x.ask().closed(i, part), row[part]);
            }
            check.due(what + "find", x.ask().find(row[0], row[1], row[2]), i);
            compareRest(what, x, want, i);
            if (row[3] >= 0) {
                byRule[row[3]]++;
            }
            literalSubjects += row[0] >= 300 ? 1 : 0;
            beyond += row[1] >= 20 + want.inAxioms && row[1] <= 28 ? 1 : 0;
        }
        for (int r = 0; r < 14; r++) {
            check.due(what + "rule(" + r + ")", x.ask().rule(r), byRule[r]);
        }
        check.due(what + "told(3)", x.ask().told(3), literalSubjects);
        check.due(what + "told(4)", x.ask().told(4), beyond);
    }

    private static void compareRest(String what, Player x, Reference want, int i) {
        TreeSet<Integer> rest = new TreeSet<>();
        want.collectRest(i, rest);
        check.due(what + "trace(" + i + ")", x.ask().trace(i), rest.size());
        int k = 0;
        for (int row : rest) {
            check.due(what + "proof(" + i + ", " + k + ")", x.ask().proof(i, k), row);
            k++;
        }
        check.due(what + "proof beyond", x.ask().proof(i, k), -1);
    }

    /** Answers more questions than one object must: a new one that had the same changes takes over. */
    private static final class Player {
        private final int memberships;
        private final List<Consumer<RdfsRules>> changes = new ArrayList<>();
        private RdfsRules current;
        private int calls = 0;

        Player(int memberships) {
            this.memberships = memberships;
            current = new RdfsRules(memberships);
        }

        void play(Consumer<RdfsRules> change) {
            change.accept(ask());
            changes.add(change);
        }

        /** The object for the next call. */
        RdfsRules ask() {
            if (calls == 512) {
                current = new RdfsRules(memberships);
                calls = changes.size();
                for (Consumer<RdfsRules> change : changes) {
                    change.accept(current);
                }
            }
            calls++;
            return current;
        }
    }

    /** A closure as the document words it; it stops soon after it has become too large. */
    private static final class Reference {
        final List<int[]> rows = new ArrayList<>();
        final Map<List<Integer>, Integer> places = new HashMap<>();
        final List<Integer> types;
        final int inAxioms;
        int rounds = 0;

        Reference() {
            this(false, 0, List.of(), List.of());
        }

        Reference(boolean on, int inAxioms, List<int[]> given, List<Integer> types) {
            this.types = types;
            this.inAxioms = inAxioms;
            if (on) {
                for (int[] a : AXIOMS) {
                    add(a[0], a[1], a[2], -2, -1, -1, 0);
                }
                for (int m = 20; m < 20 + inAxioms; m++) {
                    add(m, 0, 11, -2, -1, -1, 0);
                    add(m, 6, 2, -2, -1, -1, 0);
                    add(m, 7, 2, -2, -1, -1, 0);
                }
            }
            for (int[] g : given) {
                add(g[0], g[1], g[2], -1, -1, -1, 0);
            }
            for (int before = -1; before != rows.size() && rows.size() <= LIMIT; ) {
                before = rows.size();
                playRound(before);
                rounds += rows.size() > before ? 1 : 0;
            }
        }

        private void add(int... row) {
            if (places.putIfAbsent(List.of(row[0], row[1], row[2]), rows.size()) == null) {
                rows.add(row);
            }
        }

        private void playRound(int end) {
            for (int rule = 0; rule < 14; rule++) {
                for (int a = 0; a < end; a++) {
                    if (List.of(2, 3, 5, 7, 9, 11).contains(rule)) {
                        for (int b = 0; b < end; b++) {
                            ofTwo(rule, a, b);
                        }
                    } else {
                        ofOne(rule, a);
                    }
                }
            }
        }

        private void ofOne(int rule, int a) {
            int[] f = rows.get(a);
            boolean typed = f[1] == 0;
            int r = rounds + 1;
            switch (rule) {
                case 0 -> { if (f[2] >= 300) add(f[2], 0, types.get(f[2] - 300), 0, a, -1, r); }
                case 1 -> add(f[1], 0, 1, 1, a, -1, r);
                case 4 -> { add(f[0], 0, 2, 4, a, -1, r); add(f[2], 0, 2, 4, a, -1, r); }
                case 6 -> { if (typed && f[2] == 1) add(f[0], 5, f[0], 6, a, -1, r); }
                case 8 -> { if (typed && f[2] == 3) add(f[0], 4, 2, 8, a, -1, r); }
                case 10 -> { if (typed && f[2] == 3) add(f[0], 4, f[0], 10, a, -1, r); }
                case 12 -> { if (typed && f[2] == 11) add(f[0], 5, 10, 12, a, -1, r); }
                default -> { if (typed && f[2] == 9) add(f[0], 4, 8, 13, a, -1, r); }
            }
        }

        private void ofTwo(int rule, int a, int b) {
            int[] f = rows.get(a);
            int[] g = rows.get(b);
            int r = rounds + 1;
            boolean joined = f[2] == g[0];
            boolean used = f[0] == g[1];
            switch (rule) {
                case 2 -> { if (f[1] == 6 && used) add(g[0], 0, f[2], 2, a, b, r); }
                case 3 -> { if (f[1] == 7 && used) add(g[2], 0, f[2], 3, a, b, r); }
                case 5 -> { if (f[1] == 5 && g[1] == 5 && joined) add(f[0], 5, g[2], 5, a, b, r); }
                case 7 -> { if (f[1] == 5 && used && f[2] < 300) add(g[0], f[2], g[2], 7, a, b, r); }
                case 9 -> { if (f[1] == 4 && g[1] == 0 && f[0] == g[2]) add(g[0], 0, f[2], 9, a, b, r); }
                default -> { if (f[1] == 4 && g[1] == 4 && joined) add(f[0], 4, g[2], 11, a, b, r); }
            }
        }

        void collectRest(int i, TreeSet<Integer> rest) {
            if (i >= 0 && rest.add(i)) {
                collectRest(rows.get(i)[4], rest);
                collectRest(rows.get(i)[5], rest);
            }
        }
    }
}
