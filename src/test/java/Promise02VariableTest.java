public final class Promise02VariableTest {
    public static void main(String[] args) {
        ClauseCourt court = new ClauseCourt();
        for (int v = 1; v <= 10; v++) {
            Due.same("variable", court.variable(), v);
            Due.same("count(0)", court.count(0), v);
        }
        for (int i = 0; i < 3; i++) {
            Due.refused("an eleventh variable", court::variable);
            Due.same("count(0) behind it", court.count(0), 10);
        }
        Due.fine("literal(10)", () -> court.literal(10));
        Due.bad("literal(11)", () -> court.literal(11));
        Due.same("all ten are free", court.models(), 40);

        refusedLeavesAllElse();
        Due.end();
    }

    private static void refusedLeavesAllElse() {
        ClauseCourt court = Due.courtOf(10);
        Due.clause(court, 3, 3);
        court.solve();
        Due.assume(court, 1, 2);
        court.literal(-4);
        Due.refused("an eleventh variable", court::variable);
        Due.counts("behind it", court, 10, 1, 1, 2, 1, 0);
        Due.model("behind it", court, "0010000000");
    }
}
