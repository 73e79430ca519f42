public final class Promise05AssumeTest {
    public static void main(String[] args) {
        nextQuestionOnly();
        tenAtMost();
        wrongOnes();
        contrary();
        Due.end();
    }

    private static void nextQuestionOnly() {
        ClauseCourt court = Due.courtOf(3);
        Due.clause(court, 1, 2);
        Due.assume(court, -2, 3);
        Due.same("count(3)", court.count(3), 2);
        Due.same("solve", court.solve(), true);
        Due.model("under both", court, "101");
        Due.same("gone", court.count(3), 0);
        Due.same("solve", court.solve(), true);
        Due.model("under none", court, "010");
        Due.assume(court, -1);
        Due.same("models under one", court.models(), 2);
        Due.same("gone", court.count(3), 0);
        Due.same("models under none", court.models(), 6);
        Due.assume(court, -1);
        Due.same("follows under one", court.follows(2), true);
        Due.same("gone", court.count(3), 0);
        Due.same("follows under none", court.follows(2), false);
        Due.same("they are no clauses", court.count(1), 1);
    }

    private static void tenAtMost() {
        ClauseCourt court = Due.courtOf(10);
        for (int i = 0; i < 10; i++) {
            Due.fine("assume", () -> court.assume(5));
            Due.same("count(3)", court.count(3), i + 1);
        }
        Due.refused("an eleventh", () -> court.assume(6));
        Due.refused("an eleventh that is there", () -> court.assume(5));
        Due.bad("bad comes before refused", () -> court.assume(0));
        Due.same("still ten", court.count(3), 10);
        Due.same("solve", court.solve(), true);
        Due.model("the refused one doesn't count", court, "0000100000");
        Due.fine("ten for the next one", () -> Due.assume(court, 1, -2, 3, -4, 5, -6, 7, -8, 9, -10));
        Due.same("all ten", court.models(), 1);
    }

    private static void wrongOnes() {
        ClauseCourt court = Due.courtOf(2);
        court.assume(1);
        for (int l : new int[] {0, 3, -3, 10, -11, 32, Integer.MAX_VALUE, Integer.MIN_VALUE}) {
            Due.bad("assume(" + l + ") of two variables", () -> court.assume(l));
        }
        Due.same("the good one stays", court.count(3), 1);
        Due.same("and counts", court.models(), 2);
    }

    private static void contrary() {
        ClauseCourt court = Due.courtOf(2);
        Due.assume(court, 1, -1);
        Due.same("solve", court.solve(), false);
        Due.assume(court, 1, -1);
        Due.same("models", court.models(), 0);
        Due.assume(court, 1, -1);
        Due.same("follows", court.follows(2), true);
        Due.same("solve without", court.solve(), true);
        Due.same("no fault", court.count(5), 0);
    }
}
