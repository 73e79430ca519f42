/** Promise 1, a new object: nothing is in it, and what nothing answers. */
public final class Boundary01NewObjectTest {
    public static void main(String[] args) {
        Due.sentence("No VARIABLES", Boundary01NewObjectTest::noVariables);
        Due.sentence("no CLAUSES", Boundary01NewObjectTest::noClauses);
        Due.end();
    }

    private static void noVariables() {
        ClauseCourt court = new ClauseCourt();
        Due.same("count(0)", court.count(0), 0);
        for (int l = -1; l <= 1; l++) {
            int none = l;
            Due.bad("literal(" + l + ")", () -> court.literal(none));
            Due.bad("assume(" + l + ")", () -> court.assume(none));
            Due.bad("follows(" + l + ")", () -> court.follows(none));
            Due.bad("value(" + l + ")", () -> court.value(none));
        }
        Due.counts("afterwards", court, 0, 0, 0, 0, 0, 0);
        Due.same("solve", court.solve(), true);
        Due.bad("value(1) of a model without variables", () -> court.value(1));
        Due.same("models", court.models(), 1);
        Due.same("the first variable", court.variable(), 1);
        Due.missing("value(1), now that it is there", () -> court.value(1));
        Due.fine("literal(-1), now that it is there", () -> court.literal(-1));
    }

    private static void noClauses() {
        for (int variables = 0; variables <= 10; variables++) {
            ClauseCourt court = Due.courtOf(variables);
            Due.same("count(1)", court.count(1), 0);
            Due.same("models of " + variables, court.models(), Math.min(40, 1 << variables));
            Due.same("solve of " + variables, court.solve(), true);
            Due.model("of " + variables, court, "0".repeat(variables));
            for (int v = 1; v <= variables; v++) {
                Due.same("follows(" + v + ") of " + variables, court.follows(v), false);
                Due.same("follows(-" + v + ") of " + variables, court.follows(-v), false);
            }
            Due.same("count(2)", court.count(2), 0);
            Due.same("the first clause's number", court.close(), 0);
            Due.same("count(1)", court.count(1), 1);
        }
    }
}
