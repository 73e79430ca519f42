import java.util.function.Consumer;

/** Promise 9, value: the first variable and the last, those beside them, late ones, and no model. */
public final class Boundary09ValueTest {
    public static void main(String[] args) {
        Due.sentence("VARIABLE v in THE MODEL of the latest question", Boundary09ValueTest::latestQuestion);
        Due.sentence("if it was solve", Boundary09ValueTest::ifItWasSolve);
        Due.sentence("(one that came behind it: false)", Boundary09ValueTest::cameBehind);
        Due.sentence("No MODEL: missing", Boundary09ValueTest::noModel);
        Due.sentence("throws IllegalArgumentException", Boundary09ValueTest::noSuchVariable);
        Due.end();
    }

    private static void latestQuestion() {
        ClauseCourt court = Due.courtOf(10);
        for (int v = 1; v <= 10; v++) {
            court.assume(v);
        }
        court.solve();
        Due.model("the greatest there is", court, "1111111111");
        for (int v = 1; v <= 10; v++) {
            court.assume(-v);
        }
        Due.model("the next one isn't asked yet", court, "1111111111");
        court.solve();
        Due.model("the least there is", court, "0000000000");
        court.assume(1);
        court.solve();
        Due.model("the first variable alone", court, "1000000000");
        court.assume(10);
        court.solve();
        Due.model("the last variable alone", court, "0000000001");
        // Clauses that come behind the question don't change its model, not even these.
        Due.clause(court, -10);
        court.close();
        Due.model("as it was", court, "0000000001");
        Due.same("solve", court.solve(), false);
        Due.missing("value(10)", () -> court.value(10));
    }

    private static void ifItWasSolve() {
        ClauseCourt court = Due.courtOf(2);
        Due.clause(court, 2);
        court.solve();
        Due.model("behind solve", court, "01");
        court.follows(2);
        Due.missing("behind follows", () -> court.value(2));
        court.solve();
        Due.model("behind solve", court, "01");
        court.models();
        Due.missing("behind models", () -> court.value(2));
        court.solve();
        Due.model("behind solve", court, "01");
        Due.bad("follows(3)", () -> court.follows(3));
        Due.model("a bad one is no question", court, "01");
    }

    private static void cameBehind() {
        for (int before = 0; before <= 9; before++) {
            ClauseCourt court = Due.courtOf(before);
            for (int v = 1; v <= before; v++) {
                Due.clause(court, v);
            }
            court.solve();
            for (int v = before + 1; v <= 10; v++) {
                int late = v;
                Due.bad("value(" + v + "), not there yet", () -> court.value(late));
                court.variable();
                Due.clause(court, v);
                Due.same("value(" + v + ") behind " + before, court.value(v), false);
            }
            Due.refused("an eleventh", court::variable);
            Due.bad("value(11)", () -> court.value(11));
            Due.model("behind " + before, court, "1".repeat(before) + "0".repeat(10 - before));
            court.solve();
            Due.model("of the next question", court, "1111111111");
        }
        // One that came behind a "no" has no value, nor has one behind another question.
        ClauseCourt no = Due.courtOf(1);
        Due.assume(no, 1, -1);
        no.solve();
        no.variable();
        Due.missing("value(2) behind a no", () -> no.value(2));
        no.solve();
        no.models();
        no.variable();
        Due.missing("value(3) behind models", () -> no.value(3));
    }

    private static void noModel() {
        for (int variables = 1; variables <= 10; variables++) {
            ClauseCourt court = Due.courtOf(variables);
            everyValueMissing("before a question", court, variables);
            court.solve();
            Due.model("behind solve", court, "0".repeat(variables));
            Due.assume(court, variables, -variables);
            court.solve();
            everyValueMissing("behind a no", court, variables);
            court.solve();
            court.models();
            everyValueMissing("behind models", court, variables);
            court.solve();
            court.follows(-variables);
            everyValueMissing("behind follows", court, variables);
        }
    }

    private static void everyValueMissing(String when, ClauseCourt court, int variables) {
        for (int v = 1; v <= variables; v++) {
            int which = v;
            Due.missing("value(" + v + ") " + when, () -> court.value(which));
        }
        Due.same("count(4) " + when, court.count(4), 0);
    }

    private static void noSuchVariable() {
        for (int variables = 0; variables <= 10; variables++) {
            for (int asked = 0; asked <= 1; asked++) {
                ClauseCourt court = Due.courtOf(variables);
                if (asked == 1) {
                    court.solve();
                }
                for (int v = -13; v <= 13; v++) {
                    int which = v;
                    if (v < 1 || v > variables) {
                        Due.bad("value(" + v + ") of " + variables, () -> court.value(which));
                    }
                }
                for (int v : new int[] {32, 33, 42, 257, 65537, 1 << 30, Integer.MAX_VALUE, Integer.MIN_VALUE}) {
                    Due.bad("value(" + v + ") of " + variables, () -> court.value(v));
                    Due.bad("value(" + -v + ") of " + variables, () -> court.value(-v));
                }
            }
        }
        for (Consumer<ClauseCourt> past : Twins.PASTS) {
            for (int v : new int[] {0, -1, -3, 4, 11, 33, Integer.MAX_VALUE, Integer.MIN_VALUE}) {
                Twins.bad("value(" + v + ")", () -> {
                    ClauseCourt court = Due.courtOf(3);
                    past.accept(court);
                    court.literal(3);
                    court.assume(-3);
                    return court;
                }, court -> court.value(v));
            }
        }
    }
}
