import java.util.NoSuchElementException;

/**
 * Clauses of truth values, and questions whether all of them can be true together: worked out by
 * a search that learns; each "no" has a proof that is checked step by step.
 */
public final class ClauseCourt {
    private static final int MOST_VARIABLES = 10;
    private static final int MOST_LITERALS = 12;
    private static final int MOST_CLAUSES = 500;
    private static final int MOST_ASSUMPTIONS = 10;
    private static final int MOST_COUNTED = 40;
    private static final int NONE = -1;

    private final Docket docket;
    private final Search search;
    private final Checker checker;
    private final int[] assumptions;
    private int assumed;
    private int variables;
    private int closed;
    private int told;
    private int toldLength;
    private boolean hasModel;
    private int model;

    public ClauseCourt() {
        docket = new Docket();
        search = new Search();
        checker = new Checker();
        assumptions = new int[MOST_ASSUMPTIONS];
    }

    public int variable() throws IllegalStateException {
        if (variables >= MOST_VARIABLES) {
            throw new IllegalStateException("too many variables");
        }
        variables++;
        return variables;
    }

    public void literal(int l) throws IllegalArgumentException, IllegalStateException {
        needLiteral(l);
        if (toldLength >= MOST_LITERALS) {
            throw new IllegalStateException("too many literals");
        }
        told |= Literals.of(l);
        toldLength++;
    }

    public int close() throws IllegalStateException {
        if (closed >= MOST_CLAUSES) {
            throw new IllegalStateException("too many clauses");
        }
        docket.give(told);
        told = 0;
        toldLength = 0;
        closed++;
        return closed - 1;
    }

    public void assume(int l) throws IllegalArgumentException, IllegalStateException {
        needLiteral(l);
        if (assumed >= MOST_ASSUMPTIONS) {
            throw new IllegalStateException("too many assumptions");
        }
        assumptions[assumed] = Literals.of(l);
        assumed++;
    }

    public boolean solve() {
        openQuestion();
        hasModel = nextModel();
        model = hasModel ? search.held() : 0;
        endQuestion();
        return hasModel;
    }

    public boolean follows(int l) throws IllegalArgumentException {
        needLiteral(l);
        openQuestion();
        docket.give(Literals.of(-l));
        boolean denied = nextModel();
        endQuestion();
        return !denied;
    }

    public int models() {
        openQuestion();
        int found = 0;
        while (found < MOST_COUNTED && nextModel()) {
            found++;
            docket.give(Literals.opposite(search.held()));
        }
        endQuestion();
        return found;
    }

    public boolean value(int v) throws IllegalArgumentException, NoSuchElementException {
        if (v < 1 || v > variables) {
            throw new IllegalArgumentException("no such variable");
        }
        if (!hasModel) {
            throw new NoSuchElementException("no model");
        }
        // A variable that came behind the question has no bit in the model, so it is false.
        return (model & Literals.of(v)) != 0;
    }

    public int count(int what) {
        switch (what) {
            case 0:
                return variables;
            case 1:
                return closed;
            case 2:
                return toldLength;
            case 3:
                return assumed;
            case 4:
                return hasModel ? 1 : 0;
            case 5:
                return checker.faults();
            default:
                return -1;
        }
    }

    private void needLiteral(int l) {
        if (l == 0 || l > variables || l < -variables) {
            throw new IllegalArgumentException("no such literal");
        }
    }

    private void openQuestion() {
        hasModel = false;
        model = 0;
        for (int i = 0; i < assumed; i++) {
            docket.give(assumptions[i]);
        }
        assumed = 0;
        search.begin();
    }

    private boolean nextModel() {
        boolean found = search.findModel(docket, variables);
        if (found) {
            checker.checkModel(docket, search.held(), variables);
        } else {
            checker.checkProof(docket);
        }
        return found;
    }

    // What a question learned may rest on its assumptions, so none of it is kept.
    private void endQuestion() {
        docket.keep(closed);
    }

    /**
     * A set of literals in one int: bit v - 1 for variable v, and the bit that is ten places
     * higher for its being false. A clause is such a set; so are the literals that hold.
     */
    static final class Literals {
        private static final int POSITIVE = (1 << MOST_VARIABLES) - 1;

        private Literals() {
        }

        static int of(int l) {
            return l > 0 ? 1 << (l - 1) : 1 << (MOST_VARIABLES - l - 1);
        }

        static int opposite(int literals) {
            int positive = literals & POSITIVE;
            int negative = (literals >>> MOST_VARIABLES) & POSITIVE;
            return (positive << MOST_VARIABLES) | negative;
        }

        static boolean isSingle(int literals) {
            return literals != 0 && (literals & (literals - 1)) == 0;
        }

        static int positivesUpTo(int variables) {
            return (1 << variables) - 1;
        }
    }

    /**
     * The clauses of a question in one row: the given ones, and the derived ones, each with the
     * links of its derivation: the clause it starts from, and those it is resolved with, in order.
     */
    static final class Docket {
        // Read the trail as a number of ten binary digits, its first literal highest: 1 for an
        // implied literal, 0 for a decision or none. From conflict to conflict it grows, so no
        // question has more than 1024 conflicts, and each derives one clause.
        private static final int MOST_DERIVED = 1024;
        // The assumptions, the literal that follows asks for, and the models already counted.
        private static final int MOST_GIVEN = MOST_CLAUSES + MOST_ASSUMPTIONS + 1 + MOST_COUNTED;
        // A conflict resolves no more literals than that number's lowest run of ones is long;
        // these lengths, over all numbers of ten digits, come to 2036.
        private static final int MOST_LINKS = MOST_DERIVED + 2036;

        private final int[] clauses;
        private final int[] linksFrom;
        private final int[] linksTo;
        private final int[] links;
        private int size;
        private int linked;
        private int openFrom;

        Docket() {
            clauses = new int[MOST_GIVEN + MOST_DERIVED];
            linksFrom = new int[MOST_GIVEN + MOST_DERIVED];
            linksTo = new int[MOST_GIVEN + MOST_DERIVED];
            links = new int[MOST_LINKS];
        }

        void give(int clause) {
            append(clause, NONE, NONE);
        }

        void link(int clause) {
            if (linked < links.length) {
                links[linked] = clause;
                linked++;
            }
        }

        void derive(int clause) {
            append(clause, openFrom, linked);
            openFrom = linked;
        }

        private void append(int clause, int from, int to) {
            if (size < clauses.length) {
                clauses[size] = clause;
                linksFrom[size] = from;
                linksTo[size] = to;
                size++;
            }
        }

        void keep(int given) {
            size = Math.min(size, Math.max(given, 0));
            linked = 0;
            openFrom = 0;
        }

        int size() {
            return size;
        }

        private boolean has(int i) {
            return i >= 0 && i < size;
        }

        int clause(int i) {
            return has(i) ? clauses[i] : 0;
        }

        boolean isDerived(int i) {
            return linksFrom(i) != NONE;
        }

        int linksFrom(int i) {
            return has(i) ? linksFrom[i] : NONE;
        }

        int linksTo(int i) {
            return has(i) ? linksTo[i] : NONE;
        }

        int linkAt(int at) {
            return at >= 0 && at < linked ? links[at] : NONE;
        }
    }

    /**
     * Finds models, the least one first: it decides the first open variable, always for false, so
     * that whatever is true in a model is forced by the values of the variables before it.
     */
    static final class Search {
        // Far above the decisions and conflicts that ten variables allow, which are some 2047.
        private static final int MOST_STEPS = 100000;

        private final int[] trail;
        private final int[] reasons;
        private int length;
        private int held;

        Search() {
            trail = new int[MOST_VARIABLES];
            reasons = new int[MOST_VARIABLES];
        }

        void begin() {
            length = 0;
            held = 0;
        }

        int held() {
            return held;
        }

        /** Goes on from where it stands; "false" leaves a derived empty clause in the docket. */
        boolean findModel(Docket docket, int variables) {
            for (int step = 0; step < MOST_STEPS; step++) {
                int broken = propagate(docket);
                if (broken == NONE) {
                    if (length >= variables) {
                        return true;
                    }
                    decide(variables);
                } else if (learn(docket, broken) == 0) {
                    return false;
                }
            }
            return false;
        }

        private int propagate(Docket docket) {
            boolean more = true;
            for (int round = 0; more && round <= MOST_VARIABLES; round++) {
                int before = length;
                int broken = sweep(docket);
                if (broken != NONE) {
                    return broken;
                }
                more = length > before;
            }
            return NONE;
        }

        private int sweep(Docket docket) {
            int size = docket.size();
            for (int i = 0; i < size; i++) {
                int clause = docket.clause(i);
                if ((clause & held) == 0) {
                    int open = clause & ~Literals.opposite(held);
                    if (open == 0) {
                        return i;
                    }
                    if (Literals.isSingle(open)) {
                        hold(open, i);
                    }
                }
            }
            return NONE;
        }

        private void decide(int variables) {
            int open = Literals.positivesUpTo(variables) & ~(held | Literals.opposite(held));
            hold(Literals.opposite(open & -open), NONE);
        }

        private void hold(int literal, int reason) {
            if (length < trail.length) {
                trail[length] = literal;
                reasons[length] = reason;
                length++;
                held |= literal;
            }
        }

        /**
         * Resolves the broken clause with the reasons of its latest literals until a single one is
         * left that the latest decision had a part in; with no decision left, until it is empty.
         */
        private int learn(Docket docket, int broken) {
            int decision = latestDecision();
            int latest = deniedFrom(decision);
            int rest = docket.clause(broken);
            docket.link(broken);
            for (int at = length - 1; at > decision; at--) {
                if (decision != NONE && Literals.isSingle(rest & latest)) {
                    break;
                }
                int denied = Literals.opposite(trail[at]);
                if ((rest & denied) != 0) {
                    rest = (rest & ~denied) | (docket.clause(reasons[at]) & ~trail[at]);
                    docket.link(reasons[at]);
                }
            }
            docket.derive(rest);
            cut(jumpTarget(rest, decision));
            return rest;
        }

        private int latestDecision() {
            int at = length - 1;
            while (at >= 0 && reasons[at] != NONE) {
                at--;
            }
            return at;
        }

        private int deniedFrom(int first) {
            int literals = 0;
            for (int at = Math.max(first, 0); at < length; at++) {
                literals |= trail[at];
            }
            return Literals.opposite(literals);
        }

        // Back over every decision that the learned clause does not need to become a reason.
        private int jumpTarget(int learned, int decision) {
            int target = Math.max(decision, 0);
            for (int at = target - 1; at >= 0; at--) {
                if ((learned & Literals.opposite(trail[at])) != 0) {
                    break;
                }
                if (reasons[at] == NONE) {
                    target = at;
                }
            }
            return target;
        }

        private void cut(int target) {
            for (int at = length - 1; at >= target && at >= 0; at--) {
                held &= ~trail[at];
            }
            length = Math.min(length, target);
        }
    }

    /** Trusts nothing of the search: looks at its models and its derivations, and counts faults. */
    static final class Checker {
        private int faults;

        int faults() {
            return faults;
        }

        void checkModel(Docket docket, int held, int variables) {
            if (!isModel(docket, held, variables)) {
                faults++;
            }
        }

        private static boolean isModel(Docket docket, int held, int variables) {
            int opposite = Literals.opposite(held);
            int all = Literals.positivesUpTo(variables);
            if ((held & opposite) != 0 || (held | opposite) != (all | Literals.opposite(all))) {
                return false;
            }
            for (int i = 0; i < docket.size(); i++) {
                if (!docket.isDerived(i) && (docket.clause(i) & held) == 0) {
                    return false;
                }
            }
            return true;
        }

        /** A proof derives the empty clause as its last. */
        void checkProof(Docket docket) {
            for (int i = 0; i < docket.size(); i++) {
                if (docket.isDerived(i)) {
                    checkDerivation(docket, i);
                }
            }
            int last = docket.size() - 1;
            if (!docket.isDerived(last) || docket.clause(last) != 0) {
                faults++;
            }
        }

        private void checkDerivation(Docket docket, int derived) {
            int from = docket.linksFrom(derived);
            int rest = linkedClause(docket, from, derived);
            for (int at = from + 1; at < docket.linksTo(derived); at++) {
                int clause = linkedClause(docket, at, derived);
                int clash = rest & Literals.opposite(clause);
                if (!Literals.isSingle(clash)) {
                    faults++;
                }
                rest = (rest & ~clash) | (clause & ~Literals.opposite(clash));
            }
            if (rest != docket.clause(derived)) {
                faults++;
            }
        }

        // Only clauses that stand before the derived one: else a proof could rest on itself.
        private int linkedClause(Docket docket, int at, int derived) {
            int i = at < docket.linksTo(derived) ? docket.linkAt(at) : NONE;
            if (i < 0 || i >= derived) {
                faults++;
                return 0;
            }
            return docket.clause(i);
        }
    }
}
