/** Promise 10, count: each number at its least and its greatest, and what is no such number. */
public final class Boundary10CountTest {
    public static void main(String[] args) {
        Due.sentence("VARIABLES (0)", Boundary10CountTest::variables);
        Due.sentence("CLAUSES (1)", Boundary10CountTest::clauses);
        Due.sentence("LITERALS told of the next one (2)", Boundary10CountTest::told);
        Due.sentence("ASSUMPTIONS (3)", Boundary10CountTest::assumptions);
        Due.sentence("1 if there's a MODEL (4)", Boundary10CountTest::model);
        Due.sentence("steps of proofs that didn't check, and answers that weren't models, which must never be (5)",
            Boundary10CountTest::faults);
        Due.sentence("else -1", Boundary10CountTest::otherNumbers);
        Due.end();
    }

    private static void variables() {
        ClauseCourt court = new ClauseCourt();
        for (int v = 0; v <= 10; v++) {
            Due.same("count(0)", court.count(0), v);
            if (v < 10) {
                court.variable();
            }
        }
        Due.refused("an eleventh", court::variable);
        Due.counts("afterwards", court, 10, 0, 0, 0, 0, 0);
    }

    private static void clauses() {
        ClauseCourt court = new ClauseCourt();
        Due.same("count(1)", court.count(1), 0);
        court.close();
        Due.same("count(1)", court.count(1), 1);
        for (int i = 1; i < 499; i++) {
            court.close();
        }
        Due.same("count(1)", court.count(1), 499);
        court.close();
        Due.same("count(1)", court.count(1), 500);
        Due.refused("one too many", court::close);
        Due.counts("afterwards", court, 0, 500, 0, 0, 0, 0);
    }

    private static void told() {
        ClauseCourt court = Due.courtOf(1);
        for (int round = 0; round < 3; round++) {
            for (int i = 0; i < 12; i++) {
                Due.same("count(2)", court.count(2), i);
                court.literal(i % 2 == 0 ? 1 : -1);
            }
            Due.same("count(2)", court.count(2), 12);
            Due.refused("a thirteenth", () -> court.literal(1));
            Due.counts("afterwards", court, 1, round, 12, 0, 0, 0);
            court.models();
            Due.same("a question leaves it", court.count(2), 12);
            court.close();
        }
        Due.same("count(2)", court.count(2), 0);
    }

    private static void assumptions() {
        ClauseCourt court = Due.courtOf(1);
        for (int round = 0; round < 3; round++) {
            for (int i = 0; i < 10; i++) {
                Due.same("count(3)", court.count(3), i);
                court.assume(1);
            }
            Due.same("count(3)", court.count(3), 10);
            Due.refused("an eleventh", () -> court.assume(1));
            Due.counts("afterwards", court, 1, round, 0, 10, 0, 0);
            court.close();
            Due.same("close leaves it", court.count(3), 10);
            court.models();
        }
        Due.same("count(3)", court.count(3), 0);
    }

    private static void model() {
        ClauseCourt court = new ClauseCourt();
        Due.same("before a question", court.count(4), 0);
        court.solve();
        Due.same("a model without variables", court.count(4), 1);
        court.variable();
        court.literal(1);
        court.close();
        court.assume(-1);
        Due.same("until the next question", court.count(4), 1);
        court.solve();
        Due.same("behind a no", court.count(4), 0);
        court.solve();
        Due.same("behind a yes", court.count(4), 1);
        court.models();
        Due.same("behind models", court.count(4), 0);
        court.solve();
        court.follows(1);
        Due.same("behind follows", court.count(4), 0);
        court.solve();
        Due.bad("follows(2)", () -> court.follows(2));
        Due.same("behind a bad call", court.count(4), 1);
    }

    // CheckerTest shows that it would count: here, that there is nothing to be counted.
    private static void faults() {
        for (int least = 0; least < 1024; least += 11) {
            ClauseCourt court = Boundary00TermsTest.numbersFrom(least);
            court.solve();
            court.models();
            court.follows(1);
            Due.assume(court, -1, -2);
            court.models();
            Due.clause(court, -1, -10);
            Due.clause(court, -2, 10);
            court.models();
            court.follows(-10);
            court.close();
            court.solve();
            court.models();
            court.follows(10);
            Due.same("count(5)", court.count(5), 0);
        }
        ClauseCourt none = new ClauseCourt();
        none.close();
        none.solve();
        none.models();
        Due.same("count(5) without variables", none.count(5), 0);
    }

    private static void otherNumbers() {
        ClauseCourt court = Due.courtOf(7);
        Due.clause(court, 1);
        court.solve();
        court.literal(2);
        court.assume(3);
        for (int what = -70; what <= 70; what++) {
            if (what < 0 || what > 5) {
                Due.same("count(" + what + ")", court.count(what), -1);
            }
        }
        for (int what : new int[] {256, 257, 65536, 65537, 1 << 30, Integer.MAX_VALUE, Integer.MIN_VALUE, Integer.MIN_VALUE + 1}) {
            Due.same("count(" + what + ")", court.count(what), -1);
        }
        Due.counts("afterwards", court, 7, 1, 1, 1, 1, 0);
        Due.model("afterwards", court, "1000000");
    }
}
