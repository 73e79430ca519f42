public final class Promise07FollowsTest {
    public static void main(String[] args) {
        chain();
        wrongOnes();
        noModelBehindIt();
        Due.end();
    }

    private static void chain() {
        ClauseCourt court = Due.courtOf(4);
        Due.same("nothing follows", court.follows(1), false);
        Due.same("nor its contrary", court.follows(-1), false);
        Due.clause(court, -1, 2);
        Due.clause(court, -2, 3);
        Due.assume(court, 1);
        Due.same("1 gives 3", court.follows(3), true);
        Due.assume(court, -3);
        Due.same("not 3 gives not 1", court.follows(-1), true);
        Due.assume(court, 3);
        Due.same("3 doesn't give 1", court.follows(1), false);
        Due.assume(court, 1);
        Due.same("1 doesn't give 4", court.follows(4), false);
        Due.assume(court, 4);
        Due.same("an assumption follows", court.follows(4), true);
        Due.assume(court, 1, -3);
        Due.same("all follows where there's none", court.follows(4), true);
        Due.assume(court, 1, -3);
        Due.same("and its contrary", court.follows(-4), true);
        Due.same("no clause more", court.count(1), 2);
        Due.same("no fault", court.count(5), 0);
    }

    private static void wrongOnes() {
        ClauseCourt court = Due.courtOf(2);
        Due.clause(court, 2);
        court.solve();
        court.assume(1);
        for (int l : new int[] {0, 3, -3, 11, -11, 32, Integer.MAX_VALUE, Integer.MIN_VALUE}) {
            Due.bad("follows(" + l + ") of two variables", () -> court.follows(l));
        }
        Due.counts("a bad one is no question", court, 2, 1, 0, 1, 1, 0);
        Due.model("the model stays", court, "01");
        Due.same("the assumption stays", court.models(), 1);
    }

    private static void noModelBehindIt() {
        ClauseCourt court = Due.courtOf(2);
        Due.clause(court, 2);
        court.solve();
        Due.same("a model", court.count(4), 1);
        Due.same("2 follows", court.follows(2), true);
        Due.same("no model", court.count(4), 0);
        Due.missing("value(2)", () -> court.value(2));
        court.solve();
        Due.same("1 doesn't follow", court.follows(1), false);
        Due.same("no model", court.count(4), 0);
        Due.missing("value(2)", () -> court.value(2));
    }
}
