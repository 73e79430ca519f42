/** Promise 6, solve: no model, the only one, the first and the last of all numbers. */
public final class Boundary06SolveTest {
    public static void main(String[] args) {
        Due.sentence("Question: whether there's a MODEL", Boundary06SolveTest::whether);
        Due.sentence("ASSUMPTIONS are gone then", Boundary06SolveTest::gone);
        Due.sentence("of other questions, too", Boundary06SolveTest::goneOfOthers);
        Due.end();
    }

    // All numbers but one are forbidden, by ten clauses of one literal; then that one as well.
    private static void whether() {
        for (int only : new int[] {0, 1, 2, 511, 512, 513, 1021, 1022, 1023}) {
            ClauseCourt court = Due.courtOf(10);
            StringBuilder digits = new StringBuilder();
            for (int v = 1; v <= 10; v++) {
                int digit = only >> (10 - v) & 1;
                digits.append(digit);
                Due.clause(court, digit == 1 ? v : -v);
            }
            Due.same("solve, only " + only, court.solve(), true);
            Due.model("only " + only, court, digits.toString());
            Due.same("count(4)", court.count(4), 1);
            for (int v = 1; v <= 10; v++) {
                court.literal(digits.charAt(v - 1) == '1' ? -v : v);
            }
            court.close();
            Due.same("solve, not even " + only, court.solve(), false);
            Due.same("count(4)", court.count(4), 0);
            Due.missing("value(1)", () -> court.value(1));
            Due.same("no fault", court.count(5), 0);
        }
        ClauseCourt none = new ClauseCourt();
        Due.same("of nothing", none.solve(), true);
        none.close();
        Due.same("of an empty clause", none.solve(), false);
    }

    private static void gone() {
        for (int many = 0; many <= 10; many++) {
            for (int contrary = 0; contrary <= 1; contrary++) {
                ClauseCourt court = Due.courtOf(10);
                for (int v = 1; v <= many; v++) {
                    court.assume(contrary == 1 && v == many ? -1 : v);
                }
                boolean yes = contrary == 0 || many < 2;
                Due.same("solve under " + many, court.solve(), yes);
                Due.same("count(3)", court.count(3), 0);
                Due.same("solve under none", court.solve(), true);
                Due.model("under none", court, "0000000000");
                for (int i = 0; i < 10; i++) {
                    Due.fine("ten more", () -> court.assume(10));
                }
                Due.refused("an eleventh", () -> court.assume(10));
            }
        }
    }

    private static void goneOfOthers() {
        for (int contrary = 0; contrary <= 1; contrary++) {
            ClauseCourt court = Due.courtOf(2);
            Due.assume(court, 1, contrary == 1 ? -1 : 2);
            Due.same("models", court.models(), contrary == 1 ? 0 : 1);
            Due.same("count(3) behind models", court.count(3), 0);
            Due.same("models under none", court.models(), 4);
            Due.assume(court, 1, contrary == 1 ? -1 : 2);
            Due.same("follows", court.follows(1), true);
            Due.same("count(3) behind follows", court.count(3), 0);
            Due.same("follows under none", court.follows(1), false);
            Due.assume(court, 1, contrary == 1 ? -1 : 1);
            Due.same("follows(2)", court.follows(2), contrary == 1);
            Due.same("count(3) behind follows", court.count(3), 0);
            Due.same("solve under none", court.solve(), true);
            Due.model("under none", court, "00");
            for (int i = 0; i < 10; i++) {
                Due.fine("ten more", () -> court.assume(2));
            }
            Due.refused("an eleventh", () -> court.assume(2));
        }
    }
}
