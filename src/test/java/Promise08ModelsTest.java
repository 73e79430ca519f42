public final class Promise08ModelsTest {
    public static void main(String[] args) {
        powers();
        around40();
        noModelBehindIt();
        Due.end();
    }

    private static void powers() {
        ClauseCourt court = new ClauseCourt();
        Due.same("no variables", court.models(), 1);
        for (int n = 1; n <= 10; n++) {
            court.variable();
            Due.same(n + " free variables", court.models(), Math.min(40, 1 << n));
        }
        for (int n = 1; n <= 10; n++) {
            Due.clause(court, -n);
            Due.same(10 - n + " free variables", court.models(), Math.min(40, 1 << (10 - n)));
        }
        Due.clause(court, 10);
        Due.same("none", court.models(), 0);
        Due.same("no fault", court.count(5), 0);
    }

    // 64 values less those that a number below, all of whose clauses have six literals, forbids.
    private static void around40() {
        ClauseCourt court = Due.courtOf(6);
        for (int forbidden = 1; forbidden <= 30; forbidden++) {
            for (int v = 1; v <= 6; v++) {
                court.literal((forbidden * 7 >> (v - 1) & 1) == 1 ? -v : v);
            }
            court.close();
            Due.same(forbidden + " forbidden", court.models(), Math.min(40, 64 - forbidden));
        }
        Due.assume(court, 1);
        int odd = court.models();
        Due.assume(court, -1);
        Due.same("both halves", odd + court.models(), 34);
        Due.same("no fault", court.count(5), 0);
    }

    private static void noModelBehindIt() {
        ClauseCourt court = Due.courtOf(1);
        court.solve();
        Due.same("a model", court.count(4), 1);
        Due.same("models", court.models(), 2);
        Due.same("no model", court.count(4), 0);
        Due.missing("value(1)", () -> court.value(1));
        Due.same("no clause more", court.count(1), 0);
        Due.same("the same again", court.models(), 2);
    }
}
