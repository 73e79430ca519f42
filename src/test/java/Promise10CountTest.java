public final class Promise10CountTest {
    public static void main(String[] args) {
        ClauseCourt court = new ClauseCourt();
        for (int what : new int[] {-1, -2, 6, 7, 100, Integer.MAX_VALUE, Integer.MIN_VALUE}) {
            Due.same("count(" + what + ")", court.count(what), -1);
        }
        for (int i = 0; i < 7; i++) {
            court.variable();
        }
        Due.clause(court, 1, 2);
        Due.clause(court, 3);
        Due.clause(court, -4, 5, 6);
        Due.clause(court, 7, -1);
        court.literal(1);
        court.literal(1);
        court.literal(2);
        Due.assume(court, 1, 1, 4, -6);
        Due.counts("before the question", court, 7, 4, 3, 4, 0, 0);
        Due.same("solve", court.solve(), true);
        Due.counts("behind it", court, 7, 4, 3, 0, 1, 0);
        court.close();
        Due.counts("closed", court, 7, 5, 0, 0, 1, 0);
        Due.same("count changes nothing", court.solve(), true);
        Due.model("count changes nothing", court, "0110000");
        Due.assume(court, -3);
        Due.same("solve", court.solve(), false);
        Due.counts("no model", court, 7, 5, 0, 0, 0, 0);
        Due.end();
    }
}
