import java.util.ArrayList;
import java.util.List;

/**
 * Long runs of calls, good and wrong ones, beside a plain reference that tries every value of the
 * variables. The numbers come from a fixed sequence, so each run is the same every time.
 */
public final class ReferenceTest {
    private static final int RUNS = 3000;
    // An object is used for 512 calls; six of them are the counts at the end of a run.
    private static final int CALLS = 512 - 6;

    /** The document's words, by trying all. */
    private static final class Reference {
        int variables = 0;
        final List<int[]> clauses = new ArrayList<>();
        List<Integer> told = new ArrayList<>();
        List<Integer> assumptions = new ArrayList<>();
        int[] model = null;

        boolean isLiteral(int l) {
            return l != 0 && Math.abs((long) l) <= variables;
        }

        // Number n of the values, variable 1 highest: the least one is the first that is found.
        private boolean isTrue(int n, int l) {
            boolean value = (n >> (variables - Math.abs(l)) & 1) == 1;
            return value == l > 0;
        }

        private boolean isModel(int n) {
            for (int[] clause : clauses) {
                boolean one = false;
                for (int l : clause) {
                    one |= isTrue(n, l);
                }
                if (!one) {
                    return false;
                }
            }
            for (int l : assumptions) {
                if (!isTrue(n, l)) {
                    return false;
                }
            }
            return true;
        }

        List<Integer> question() {
            List<Integer> found = new ArrayList<>();
            for (int n = 0; n < 1 << variables; n++) {
                if (isModel(n)) {
                    found.add(n);
                }
            }
            assumptions = new ArrayList<>();
            model = null;
            return found;
        }

        String variable() {
            if (variables == 10) {
                return "IllegalStateException";
            }
            variables++;
            return "" + variables;
        }

        String tell(int l, List<Integer> row, int most) {
            if (!isLiteral(l)) {
                return "IllegalArgumentException";
            }
            if (row.size() == most) {
                return "IllegalStateException";
            }
            row.add(l);
            return "nothing";
        }

        String close() {
            if (clauses.size() == 500) {
                return "IllegalStateException";
            }
            clauses.add(told.stream().mapToInt(Integer::intValue).toArray());
            told = new ArrayList<>();
            return "" + (clauses.size() - 1);
        }

        String solve() {
            List<Integer> found = question();
            if (!found.isEmpty()) {
                model = new int[11];
                for (int v = 1; v <= variables; v++) {
                    model[v] = isTrue(found.get(0), v) ? 1 : 0;
                }
            }
            return "" + !found.isEmpty();
        }

        String follows(int l) {
            if (!isLiteral(l)) {
                return "IllegalArgumentException";
            }
            boolean all = true;
            for (int n : question()) {
                all &= isTrue(n, l);
            }
            return "" + all;
        }

        String models() {
            return "" + Math.min(40, question().size());
        }

        String value(int v) {
            if (v < 1 || v > variables) {
                return "IllegalArgumentException";
            }
            return model == null ? "NoSuchElementException" : "" + (model[v] == 1);
        }

        String count(int what) {
            int[] counts = {variables, clauses.size(), told.size(), assumptions.size(), model == null ? 0 : 1, 0};
            return "" + (what >= 0 && what < counts.length ? counts[what] : -1);
        }
    }

    private static long seed = 20261115;
    private static String answer;

    private static int below(int bound) {
        seed = seed * 6364136223846793005L + 1442695040888963407L;
        return (int) Math.floorMod(seed >>> 33, (long) bound);
    }

    private static String answerOf(Due.Call call) {
        answer = "nothing";
        String thrown = Due.thrownBy(call);
        return thrown.equals("nothing") ? answer : thrown;
    }

    private static int someLiteral(Reference reference) {
        if (below(60) == 0) {
            int[] odd = {0, 11, -11, reference.variables + 1, -reference.variables - 1, 32, Integer.MIN_VALUE, Integer.MAX_VALUE};
            return odd[below(odd.length)];
        }
        int v = 1 + below(Math.max(1, reference.variables));
        return below(2) == 0 ? v : -v;
    }

    private static int someVariable(Reference reference) {
        return below(30) == 0 ? below(26) - 13 : 1 + below(Math.max(1, reference.variables));
    }

    /** How often each kind of call comes in a run: it makes some hard, some easy, some full. */
    private static int[] someWeights() {
        int[] weights = new int[9];
        for (int i = 0; i < weights.length; i++) {
            weights[i] = below(10);
        }
        weights[1] += below(30);
        weights[2] += below(12);
        weights[8] += 1;
        return weights;
    }

    private static int someKind(int[] weights) {
        int all = 0;
        for (int weight : weights) {
            all += weight;
        }
        int at = below(all);
        int kind = 0;
        while (at >= weights[kind]) {
            at -= weights[kind];
            kind++;
        }
        return kind;
    }

    private static boolean step(int run, int at, int kind, ClauseCourt court, Reference reference) {
        int l = someLiteral(reference);
        int v = someVariable(reference);
        int what = below(9) - 1;
        String got;
        String want;
        switch (kind) {
            case 0: got = answerOf(() -> answer = "" + court.variable()); want = reference.variable(); break;
            case 1: got = answerOf(() -> court.literal(l)); want = reference.tell(l, reference.told, 12); break;
            case 2: got = answerOf(() -> answer = "" + court.close()); want = reference.close(); break;
            case 3: got = answerOf(() -> court.assume(l)); want = reference.tell(l, reference.assumptions, 10); break;
            case 4: got = answerOf(() -> answer = "" + court.solve()); want = reference.solve(); break;
            case 5: got = answerOf(() -> answer = "" + court.follows(l)); want = reference.follows(l); break;
            case 6: got = answerOf(() -> answer = "" + court.models()); want = reference.models(); break;
            case 7: got = answerOf(() -> answer = "" + court.value(v)); want = reference.value(v); break;
            default: got = answerOf(() -> answer = "" + court.count(what)); want = reference.count(what); break;
        }
        boolean same = got.equals(want);
        if (!same) {
            Due.same("run " + run + ", call " + at + " of kind " + kind + " (" + l + ", " + v + ", " + what + "): "
                + got + " where " + want + " is due; equal", false, true);
        }
        return same;
    }

    // Clauses of one width, about as many as make the answer hard to tell, then all questions.
    private static int hardStart(ClauseCourt court, Reference reference) {
        int calls = 0;
        int n = 4 + below(7);
        for (int i = 0; i < n; i++, calls++) {
            court.variable();
            reference.variable();
        }
        int width = 2 + below(3);
        int clauses = n * (width == 2 ? 1 + below(2) : width == 3 ? 3 + below(4) : 6 + below(4));
        for (int i = 0; i < clauses && calls < 400; i++) {
            for (int k = 0; k < width; k++, calls++) {
                int v = 1 + below(n);
                int l = below(2) == 0 ? v : -v;
                court.literal(l);
                reference.tell(l, reference.told, 12);
            }
            court.close();
            reference.close();
            calls++;
        }
        return calls;
    }

    private static void run(int run) {
        ClauseCourt court = new ClauseCourt();
        Reference reference = new Reference();
        int[] weights = someWeights();
        int at = 0;
        if (run % 2 == 0) {
            at = hardStart(court, reference);
            weights = new int[] {0, 1, 1, 10, 5, 5, 5, 10, 1};
        } else if (weights[0] < 3) {
            weights[0] = 3;
        }
        boolean same = true;
        while (same && at < CALLS) {
            same = step(run, at, someKind(weights), court, reference);
            at++;
        }
        for (int what = 0; what < 6; what++) {
            Due.same("run " + run + ": count(" + what + ") at the end", court.count(what), Long.parseLong(reference.count(what)));
        }
    }

    public static void main(String[] args) {
        for (int i = 0; i < RUNS; i++) {
            run(i);
        }
        Due.end();
    }
}
