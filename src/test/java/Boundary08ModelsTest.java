/** Promise 8, models: none, one, 39, 40, 41 and all 1024 of them. */
public final class Boundary08ModelsTest {
    public static void main(String[] args) {
        Due.sentence("how many MODELS there are", Boundary08ModelsTest::howMany);
        Due.sentence("at most 40 are counted", Boundary08ModelsTest::fortyAtMost);
        Due.sentence("There's no MODEL then", Boundary08ModelsTest::noModelThen);
        Due.end();
    }

    private static void howMany() {
        ClauseCourt court = new ClauseCourt();
        Due.same("no variable", court.models(), 1);
        court.variable();
        Due.same("one variable", court.models(), 2);
        Due.assume(court, 1);
        Due.same("one model", court.models(), 1);
        Due.assume(court, 1, -1);
        Due.same("none", court.models(), 0);
        court.close();
        Due.same("none, by an empty clause", court.models(), 0);
        Due.same("no fault", court.count(5), 0);
    }

    // The numbers from 1024 - many on, each of them a model; and under assumptions none of them.
    private static void fortyAtMost() {
        for (int many = 1; many <= 1024; many++) {
            ClauseCourt court = Boundary00TermsTest.numbersFrom(1024 - many);
            int clauses = court.count(1);
            Due.same("models of " + many, court.models(), Math.min(many, 40));
            Due.same("the same again", court.models(), Math.min(many, 40));
            Due.same("it leaves no clause behind", court.count(1), clauses);
            Due.same("nor takes a model away", court.solve(), true);
            Due.assume(court, 10, -10);
            Due.same("none", court.models(), 0);
            Due.same("no fault", court.count(5), 0);
        }
    }

    private static void noModelThen() {
        for (int many : new int[] {0, 1, 39, 40, 41, 1024}) {
            ClauseCourt court = many == 0 ? Due.courtOf(10) : Boundary00TermsTest.numbersFrom(1024 - many);
            court.solve();
            Due.same("count(4) before", court.count(4), 1);
            if (many == 0) {
                court.close();
            }
            Due.same("models", court.models(), Math.min(many, 40));
            Due.same("count(4) behind", court.count(4), 0);
            Due.missing("value(1) behind", () -> court.value(1));
            Due.missing("value(10) behind", () -> court.value(10));
            Due.same("solve", court.solve(), many > 0);
            Due.same("count(4) behind solve", court.count(4), many > 0 ? 1 : 0);
        }
    }
}
