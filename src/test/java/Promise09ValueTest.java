public final class Promise09ValueTest {
    public static void main(String[] args) {
        before();
        wrongOnes();
        cameBehind();
        stays();
        Due.end();
    }

    private static void before() {
        ClauseCourt court = Due.courtOf(2);
        Due.missing("no question yet", () -> court.value(1));
        Due.bad("bad comes before missing", () -> court.value(3));
        Due.bad("bad comes before missing", () -> court.value(-1));
    }

    private static void wrongOnes() {
        ClauseCourt court = Due.courtOf(2);
        court.solve();
        for (int v : new int[] {0, -1, -2, 3, 10, 11, 33, Integer.MAX_VALUE, Integer.MIN_VALUE}) {
            Due.bad("value(" + v + ") of two variables", () -> court.value(v));
        }
        Due.model("the others", court, "00");
    }

    private static void cameBehind() {
        ClauseCourt court = Due.courtOf(1);
        Due.clause(court, 1);
        court.solve();
        court.variable();
        Due.clause(court, 2);
        Due.model("one that came behind is false", court, "10");
        Due.same("solve", court.solve(), true);
        Due.model("now it's there", court, "11");
        Due.assume(court, -2);
        Due.same("no model", court.solve(), false);
        court.variable();
        Due.missing("one that came behind no model", () -> court.value(3));

        ClauseCourt none = new ClauseCourt();
        none.solve();
        none.variable();
        Due.model("one behind a model without variables", none, "0");
    }

    private static void stays() {
        ClauseCourt court = Due.courtOf(3);
        Due.clause(court, 2, 3);
        Due.assume(court, 1);
        court.solve();
        Due.model("of the question with its assumption", court, "101");
        Due.assume(court, -1, 2);
        court.literal(-3);
        court.close();
        court.count(4);
        Due.bad("literal(9)", () -> court.literal(9));
        Due.model("until the next question", court, "101");
        court.solve();
        Due.model("of the next question", court, "010");
    }
}
