public final class Promise04CloseTest {
    public static void main(String[] args) {
        numbers();
        empty();
        fiveHundredAtMost();
        modelStays();
        Due.end();
    }

    private static void numbers() {
        ClauseCourt court = Due.courtOf(3);
        Due.same("first", Due.clause(court, 1, 2), 0);
        Due.same("second", Due.clause(court, -1), 1);
        Due.same("the same again", Due.clause(court, -1), 2);
        Due.same("count(1)", court.count(1), 3);
        Due.same("count(2)", court.count(2), 0);
        court.solve();
        court.models();
        court.follows(3);
        Due.same("questions take no number", Due.clause(court, -3), 3);
        Due.same("solve", court.solve(), true);
        Due.model("all count", court, "010");
    }

    private static void empty() {
        ClauseCourt court = Due.courtOf(2);
        Due.same("an empty clause", court.close(), 0);
        Due.same("is never true", court.solve(), false);
        Due.same("has no models", court.models(), 0);
        Due.same("proves all", court.follows(-2), true);
        Due.counts("behind it", court, 2, 1, 0, 0, 0, 0);
    }

    private static void fiveHundredAtMost() {
        ClauseCourt court = Due.courtOf(1);
        court.literal(1);
        for (int i = 0; i < 500; i++) {
            Due.same("close", court.close(), i);
        }
        court.literal(-1);
        Due.refused("clause 500", court::close);
        Due.same("the told literal stays", court.count(2), 1);
        Due.same("no clause more", court.count(1), 500);
        Due.same("no model with the empty ones", court.solve(), false);
        Due.same("no fault", court.count(5), 0);
        Due.refused("and again", court::close);
        Due.same("the told literal stays", court.count(2), 1);
    }

    private static void modelStays() {
        ClauseCourt court = Due.courtOf(2);
        Due.clause(court, 1);
        court.solve();
        Due.clause(court, -1);
        Due.same("a model of the latest question", court.count(4), 1);
        Due.model("as it was", court, "10");
        Due.same("but no more", court.solve(), false);
    }
}
