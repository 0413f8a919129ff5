import java.util.Arrays;

/**
 * Facts of three parts and all that follows of them by the rules of a public vocabulary for
 * classes and properties: round by round, each new fact with the rule and the facts that made
 * it first.
 */
public final class RdfsRules {
    public static final int NONE = -1, AXIOM = -2;

    private static final int TYPE = 0, PROPERTY = 1, RESOURCE = 2, CLASS = 3;
    private static final int SUBCLASS = 4, SUBPROPERTY = 5, DOMAIN = 6, RANGE = 7;
    private static final int LITERAL = 8, DATATYPE = 9, MEMBER = 10, CONTAINER = 11;
    private static final int FIRST_MEMBERSHIP = 20, MAX_MEMBERSHIPS = 9;
    private static final int FIRST_NAME = 100, LAST_NAME = 199;
    private static final int FIRST_LITERAL = 300, MAX_LITERALS = 40;
    private static final int MAX_GIVEN = 80, MAX_ROWS = 600, RULES = 14;

    private final Terms terms;
    private final GivenFacts given;
    private final Axioms axiomSet;
    private final Reasoner reasoner;
    // Two sets of rows take turns, so that a run that comes to too many leaves the latest closure.
    private Rows latest;
    private Rows spare;

    public RdfsRules(int memberships) {
        terms = new Terms();
        given = new GivenFacts();
        axiomSet = new Axioms(memberships != 0);
        latest = new Rows();
        spare = new Rows();
        reasoner = new Reasoner(terms, spare);
    }

    public int literal(int type) throws IllegalArgumentException, IllegalStateException {
        if (!terms.isNonLiteral(type)) {
            throw new IllegalArgumentException("the type is no term that may be one");
        }
        if (terms.literals() >= MAX_LITERALS) {
            throw new IllegalStateException("there are 40 literals");
        }
        return terms.addLiteral(type);
    }

    public int triple(int s, int p, int o) throws IllegalArgumentException, IllegalStateException {
        if (!mayBeFact(s, p, o)) {
            throw new IllegalArgumentException("these are no parts of a fact");
        }
        if (given.placeOf(s, p, o) == NONE) {
            if (given.size() >= MAX_GIVEN) {
                throw new IllegalStateException("there are 80 given facts");
            }
            given.append(s, p, o);
        }
        return given.size();
    }

    public int remove(int s, int p, int o) throws IllegalArgumentException {
        if (!mayBeFact(s, p, o)) {
            throw new IllegalArgumentException("these are no parts of a fact");
        }
        int place = given.placeOf(s, p, o);
        if (place != NONE) {
            given.dropAt(place);
            return 1;
        }
        return axiomSet.contains(s, p, o) ? 2 : 0;
    }

    public void axioms(boolean on) {
        axiomSet.ask(on);
    }

    public void count(int n) throws IllegalArgumentException {
        if (n < 0 || n > MAX_MEMBERSHIPS) {
            throw new IllegalArgumentException("not 0 to 9 memberships");
        }
        axiomSet.setCount(n);
    }

    public int run() throws UnsupportedOperationException {
        spare.restart(axiomSet.memberships());
        axiomSet.appendTo(spare);
        given.appendTo(spare);
        int rounds = reasoner.close(spare);
        if (rounds == NONE) {
            throw new UnsupportedOperationException("more than 600 rows");
        }
        Rows former = latest;
        latest = spare;
        spare = former;
        return rounds;
    }

    public int closed(int i, int what) throws IllegalArgumentException {
        if (!latest.isRow(i) || what < 0 || what > 6) {
            throw new IllegalArgumentException("no such row or no such part of it");
        }
        return latest.part(i, what);
    }

    public int find(int s, int p, int o) {
        return latest.rowOf(s, p, o);
    }

    public int trace(int i) throws IllegalArgumentException {
        if (!latest.isRow(i)) {
            throw new IllegalArgumentException("no such row");
        }
        return latest.restSize(i);
    }

    public int proof(int i, int k) throws IllegalArgumentException {
        if (!latest.isRow(i)) {
            throw new IllegalArgumentException("no such row");
        }
        return latest.restMember(i, k);
    }

    public int rule(int r) throws IllegalArgumentException {
        if (r < 0 || r >= RULES) {
            throw new IllegalArgumentException("no such rule");
        }
        return latest.madeBy(r);
    }

    public int told(int what) throws IllegalArgumentException {
        switch (what) {
            case 0: return latest.size();
            case 1: return given.size();
            case 2: return terms.literals();
            case 3: return latest.literalSubjects();
            case 4: return latest.membershipsBeyondAxioms();
            default: throw new IllegalArgumentException("nothing is told of this number");
        }
    }

    private boolean mayBeFact(int s, int p, int o) {
        return terms.isNonLiteral(s) && terms.isNonLiteral(p) && terms.isTerm(o);
    }

    /** Which numbers are terms, and the types of the literals that were made. */
    private static final class Terms {
        private final int[] literalTypes = new int[MAX_LITERALS];
        private int literals = 0;

        int literals() {
            return literals;
        }

        boolean isNonLiteral(int term) {
            return term >= TYPE && term <= CONTAINER
                || term >= FIRST_MEMBERSHIP && term < FIRST_MEMBERSHIP + MAX_MEMBERSHIPS
                || term >= FIRST_NAME && term <= LAST_NAME;
        }

        boolean isLiteral(int term) {
            return term >= FIRST_LITERAL && term < FIRST_LITERAL + literals;
        }

        boolean isTerm(int term) {
            return isNonLiteral(term) || isLiteral(term);
        }

        /** NONE for what is no literal. */
        int typeOf(int term) {
            return isLiteral(term) ? literalTypes[term - FIRST_LITERAL] : NONE;
        }

        /** The caller has seen that there is room. */
        int addLiteral(int type) {
            literalTypes[literals] = type;
            literals++;
            return FIRST_LITERAL + literals - 1;
        }
    }

    /** The given facts in the order in which they came. */
    private static final class GivenFacts {
        private final int[] subjects = new int[MAX_GIVEN];
        private final int[] properties = new int[MAX_GIVEN];
        private final int[] objects = new int[MAX_GIVEN];
        private int size = 0;

        int size() {
            return size;
        }

        int placeOf(int s, int p, int o) {
            for (int i = 0; i < size; i++) {
                if (subjects[i] == s && properties[i] == p && objects[i] == o) {
                    return i;
                }
            }
            return NONE;
        }

        /** The caller has seen that there is room. */
        void append(int s, int p, int o) {
            subjects[size] = s;
            properties[size] = p;
            objects[size] = o;
            size++;
        }

        void dropAt(int place) {
            for (int i = place; i + 1 < size; i++) {
                subjects[i] = subjects[i + 1];
                properties[i] = properties[i + 1];
                objects[i] = objects[i + 1];
            }
            size--;
        }

        void appendTo(Rows rows) {
            for (int i = 0; i < size; i++) {
                rows.addNew(subjects[i], properties[i], objects[i], NONE, NONE, NONE, 0);
            }
        }
    }

    /** The axioms as they are asked for now. */
    private static final class Axioms {
        private static final int[] FIXED = {
            TYPE, TYPE, PROPERTY,
            TYPE, DOMAIN, RESOURCE,
            TYPE, RANGE, CLASS,
            DOMAIN, DOMAIN, PROPERTY,
            DOMAIN, RANGE, CLASS,
            RANGE, DOMAIN, PROPERTY,
            RANGE, RANGE, CLASS,
            SUBPROPERTY, DOMAIN, PROPERTY,
            SUBPROPERTY, RANGE, PROPERTY,
            SUBCLASS, DOMAIN, CLASS,
            SUBCLASS, RANGE, CLASS,
            MEMBER, DOMAIN, RESOURCE,
            MEMBER, RANGE, RESOURCE,
            CONTAINER, SUBCLASS, PROPERTY,
            DATATYPE, SUBCLASS, CLASS,
        };
        private static final int FIXED_COUNT = 15;
        /** Property and object of what is said of each membership. */
        private static final int[] OF_MEMBERSHIP = {
            TYPE, CONTAINER,
            DOMAIN, RESOURCE,
            RANGE, RESOURCE,
        };

        private final boolean membershipsBelong;
        private boolean asked = false;
        private int count = MAX_MEMBERSHIPS;

        Axioms(boolean membershipsBelong) {
            this.membershipsBelong = membershipsBelong;
        }

        void ask(boolean on) {
            asked = on;
        }

        void setCount(int n) {
            count = n;
        }

        /** How many memberships the axioms speak of in truth, whatever count was told. */
        int memberships() {
            return asked && membershipsBelong ? count : 0;
        }

        boolean contains(int s, int p, int o) {
            int size = size();
            for (int i = 0; i < size; i++) {
                if (subject(i) == s && property(i) == p && object(i) == o) {
                    return true;
                }
            }
            return false;
        }

        void appendTo(Rows rows) {
            int size = size();
            for (int i = 0; i < size; i++) {
                rows.addNew(subject(i), property(i), object(i), AXIOM, NONE, NONE, 0);
            }
        }

        private int size() {
            return asked ? FIXED_COUNT + 3 * memberships() : 0;
        }

        private int subject(int i) {
            return i < FIXED_COUNT ? FIXED[3 * i] : FIRST_MEMBERSHIP + (i - FIXED_COUNT) / 3;
        }

        private int property(int i) {
            return i < FIXED_COUNT ? FIXED[3 * i + 1] : OF_MEMBERSHIP[(i - FIXED_COUNT) % 3 * 2];
        }

        private int object(int i) {
            return i < FIXED_COUNT ? FIXED[3 * i + 2] : OF_MEMBERSHIP[(i - FIXED_COUNT) % 3 * 2 + 1];
        }
    }

    /** The rows of one closure, each fact once, with what made it. */
    private static final class Rows {
        // A power of two well above the rows, so that a search soon meets a free slot.
        private static final int SLOTS = 1024, SLOT_SHIFT = 22;
        private static final int SCATTER = -1640531527;

        final int[] subjects = new int[MAX_ROWS];
        final int[] properties = new int[MAX_ROWS];
        final int[] objects = new int[MAX_ROWS];
        private final int[] rules = new int[MAX_ROWS];
        private final int[] firsts = new int[MAX_ROWS];
        private final int[] seconds = new int[MAX_ROWS];
        private final int[] rounds = new int[MAX_ROWS];
        private final int[] rowAtSlot = new int[SLOTS];
        private final boolean[] rests = new boolean[MAX_ROWS];
        private int size = 0;
        private boolean overfull = false;
        private int axiomMemberships = 0;

        Rows() {
            Arrays.fill(rowAtSlot, NONE);
        }

        void restart(int membershipsInAxioms) {
            Arrays.fill(rowAtSlot, NONE);
            size = 0;
            overfull = false;
            axiomMemberships = membershipsInAxioms;
        }

        int size() {
            return size;
        }

        boolean isOverfull() {
            return overfull;
        }

        boolean isRow(int i) {
            return i >= 0 && i < size;
        }

        int rowOf(int s, int p, int o) {
            return rowAtSlot[slotOf(s, p, o)];
        }

        void addNew(int s, int p, int o, int rule, int first, int second, int round) {
            int slot = slotOf(s, p, o);
            if (rowAtSlot[slot] != NONE) {
                return;
            }
            if (size >= MAX_ROWS) {
                overfull = true;
                return;
            }
            rowAtSlot[slot] = size;
            subjects[size] = s;
            properties[size] = p;
            objects[size] = o;
            rules[size] = rule;
            firsts[size] = first;
            seconds[size] = second;
            rounds[size] = round;
            size++;
        }

        /** The slot that holds the fact's row, or the free one where it would go. */
        private int slotOf(int s, int p, int o) {
            int slot = ((s * 613 + p) * 601 + o) * SCATTER >>> SLOT_SHIFT;
            for (int step = 0; step < SLOTS; step++) {
                int row = rowAtSlot[slot];
                if (row == NONE || subjects[row] == s && properties[row] == p && objects[row] == o) {
                    return slot;
                }
                slot = (slot + 1) & (SLOTS - 1);
            }
            return slot;
        }

        int part(int row, int what) {
            switch (what) {
                case 0: return subjects[row];
                case 1: return properties[row];
                case 2: return objects[row];
                case 3: return rules[row];
                case 4: return firsts[row];
                case 5: return seconds[row];
                default: return rounds[row];
            }
        }

        int restSize(int i) {
            markRest(i);
            int marked = 0;
            for (int row = 0; row <= i; row++) {
                if (rests[row]) {
                    marked++;
                }
            }
            return marked;
        }

        int restMember(int i, int k) {
            markRest(i);
            int before = 0;
            for (int row = 0; row <= i; row++) {
                if (rests[row]) {
                    if (before == k) {
                        return row;
                    }
                    before++;
                }
            }
            return NONE;
        }

        /** What made a row has a lower number, so one way down meets all that it rests on. */
        private void markRest(int i) {
            for (int row = 0; row <= i; row++) {
                rests[row] = row == i;
            }
            for (int row = i; row >= 0; row--) {
                if (rests[row]) {
                    markIfRow(firsts[row]);
                    markIfRow(seconds[row]);
                }
            }
        }

        private void markIfRow(int row) {
            if (row != NONE) {
                rests[row] = true;
            }
        }

        int madeBy(int rule) {
            int made = 0;
            for (int row = 0; row < size; row++) {
                if (rules[row] == rule) {
                    made++;
                }
            }
            return made;
        }

        int literalSubjects() {
            int found = 0;
            for (int row = 0; row < size; row++) {
                if (subjects[row] >= FIRST_LITERAL) {
                    found++;
                }
            }
            return found;
        }

        int membershipsBeyondAxioms() {
            int found = 0;
            for (int row = 0; row < size; row++) {
                if (properties[row] >= FIRST_MEMBERSHIP + axiomMemberships
                    && properties[row] < FIRST_MEMBERSHIP + MAX_MEMBERSHIPS) {
                    found++;
                }
            }
            return found;
        }
    }

    /** Adds to rows, round by round, what follows of them. */
    private static final class Reasoner {
        private final Terms terms;
        private Rows rows;
        // Of rows below this one alone every rule has made all that it can in an earlier round.
        private int spent = 0;
        private int end = 0;
        private int round = 0;
        // What the next fact is made by.
        private int maker = 0;
        private int first = NONE;
        private int second = NONE;

        Reasoner(Terms terms, Rows rows) {
            this.terms = terms;
            this.rows = rows;
        }

        /** How many rounds; NONE if there would be too many rows. */
        int close(Rows start) {
            rows = start;
            spent = 0;
            // Each round but the last makes a row, so there can't be more rounds than this.
            for (int made = 0; made <= MAX_ROWS; made++) {
                round = made + 1;
                end = rows.size();
                for (int r = 0; r < RULES && !rows.isOverfull(); r++) {
                    maker = r;
                    if (firstProperty() == NONE) {
                        applyToSingles();
                    } else {
                        applyToPairs();
                    }
                }
                if (rows.isOverfull()) {
                    return NONE;
                }
                if (rows.size() == end) {
                    return made;
                }
                spent = end;
            }
            return NONE;
        }

        /** The property of the first fact of two; NONE for a rule that takes one fact. */
        private int firstProperty() {
            switch (maker) {
                case 2: return DOMAIN;
                case 3: return RANGE;
                case 5: case 7: return SUBPROPERTY;
                case 9: case 11: return SUBCLASS;
                default: return NONE;
            }
        }

        /** The part of the second fact that the first one settles. */
        private int[] settledParts() {
            switch (maker) {
                case 5: case 11: return rows.subjects;
                case 9: return rows.objects;
                default: return rows.properties;
            }
        }

        private void applyToSingles() {
            second = NONE;
            for (int row = spent; row < end; row++) {
                first = row;
                makeOfOne(rows.subjects[row], rows.properties[row], rows.objects[row]);
            }
        }

        private void applyToPairs() {
            int property = firstProperty();
            int[] settled = settledParts();
            for (int row = 0; row < end; row++) {
                if (rows.properties[row] == property) {
                    first = row;
                    int c = rows.subjects[row];
                    int d = rows.objects[row];
                    int wanted = maker == 5 || maker == 11 ? d : c;
                    for (int other = row < spent ? spent : 0; other < end; other++) {
                        if (settled[other] == wanted) {
                            second = other;
                            makeOfTwo(c, d, rows.subjects[other], rows.properties[other], rows.objects[other]);
                        }
                    }
                }
            }
        }

        private void makeOfOne(int s, int p, int o) {
            if (maker == 0 && terms.isLiteral(o)) {
                make(o, TYPE, terms.typeOf(o));
            } else if (maker == 1) {
                make(p, TYPE, PROPERTY);
            } else if (maker == 4) {
                make(s, TYPE, RESOURCE);
                make(o, TYPE, RESOURCE);
            } else if (maker == 6 && p == TYPE && o == PROPERTY) {
                make(s, SUBPROPERTY, s);
            } else if (maker == 8 && p == TYPE && o == CLASS) {
                make(s, SUBCLASS, RESOURCE);
            } else if (maker == 10 && p == TYPE && o == CLASS) {
                make(s, SUBCLASS, s);
            } else if (maker == 12 && p == TYPE && o == CONTAINER) {
                make(s, SUBPROPERTY, MEMBER);
            } else if (maker == 13 && p == TYPE && o == DATATYPE) {
                make(s, SUBCLASS, LITERAL);
            }
        }

        /** Of a first fact that joins c to d by the rule's property, and of a second one (s p o). */
        private void makeOfTwo(int c, int d, int s, int p, int o) {
            if (maker == 2 && p == c) {
                make(s, TYPE, d);
            } else if (maker == 3 && p == c) {
                make(o, TYPE, d);
            } else if (maker == 5 && p == SUBPROPERTY && s == d) {
                make(c, SUBPROPERTY, o);
            } else if (maker == 7 && p == c && !terms.isLiteral(d)) {
                make(s, d, o);
            } else if (maker == 9 && p == TYPE && o == c) {
                make(s, TYPE, d);
            } else if (maker == 11 && p == SUBCLASS && s == d) {
                make(c, SUBCLASS, o);
            }
        }

        private void make(int s, int p, int o) {
            rows.addNew(s, p, o, maker, first, second, round);
        }
    }
}
