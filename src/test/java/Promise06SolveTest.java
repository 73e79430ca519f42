public final class Promise06SolveTest {
    public static void main(String[] args) {
        leastModel();
        noModel();
        pigeons();
        alternating();
        Due.end();
    }

    private static void leastModel() {
        ClauseCourt court = Due.courtOf(4);
        Due.same("all free", court.solve(), true);
        Due.model("all free", court, "0000");
        Due.clause(court, 1, 4);
        Due.same("1 or 4", court.solve(), true);
        Due.model("variable 1 is the highest", court, "0001");
        Due.clause(court, -4, 2);
        Due.clause(court, -4, 3);
        Due.same("4 asks for 2 and 3", court.solve(), true);
        Due.model("0111 is below 1000", court, "0111");
        Due.assume(court, -2);
        Due.same("without 2", court.solve(), true);
        Due.model("without 2", court, "1000");
        Due.clause(court, 1);
        Due.same("1 by itself", court.solve(), true);
        Due.model("1 by itself", court, "1000");
    }

    private static void noModel() {
        ClauseCourt court = Due.courtOf(2);
        Due.clause(court, 1, 2);
        Due.clause(court, 1, -2);
        Due.clause(court, -1, 2);
        Due.same("one is left", court.solve(), true);
        Due.same("a model", court.count(4), 1);
        Due.assume(court, -2);
        Due.same("not under -2", court.solve(), false);
        Due.same("no model", court.count(4), 0);
        Due.clause(court, -1, -2);
        Due.same("none is left", court.solve(), false);
        Due.missing("value(1)", () -> court.value(1));
        Due.counts("behind it", court, 2, 4, 0, 0, 0, 0);
    }

    // Pigeon p sits in hole h: variable 3 * p + h, for 3 pigeons and 3 holes, then one hole less.
    private static void pigeons() {
        ClauseCourt court = Due.courtOf(9);
        for (int p = 0; p < 3; p++) {
            Due.clause(court, 3 * p + 1, 3 * p + 2, 3 * p + 3);
        }
        for (int h = 1; h <= 3; h++) {
            Due.clause(court, -h, -(3 + h));
            Due.clause(court, -h, -(6 + h));
            Due.clause(court, -(3 + h), -(6 + h));
        }
        Due.same("three in three", court.solve(), true);
        Due.model("three in three", court, "001010100");
        Due.same("their orders", court.models(), 6);
        Due.assume(court, -2, -5, -8);
        Due.same("three in two", court.solve(), false);
        Due.same("no fault", court.count(5), 0);
    }

    // Each variable differs from the next; a clause more leaves one of the two models, another none.
    private static void alternating() {
        ClauseCourt court = Due.courtOf(10);
        for (int v = 1; v < 10; v++) {
            Due.clause(court, v, v + 1);
            Due.clause(court, -v, -(v + 1));
        }
        Due.same("alternating", court.solve(), true);
        Due.model("alternating", court, "0101010101");
        Due.same("two of them", court.models(), 2);
        Due.clause(court, 1, -10);
        Due.same("the other one", court.solve(), true);
        Due.model("the other one", court, "1010101010");
        Due.clause(court, -1, 10);
        Due.same("none", court.solve(), false);
        Due.same("no fault", court.count(5), 0);
    }
}
