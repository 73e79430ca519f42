import java.util.function.Consumer;

/** Promise 7, follows: of no model, of one, of all; and of a literal that isn't there. */
public final class Boundary07FollowsTest {
    public static void main(String[] args) {
        Due.sentence("whether LITERAL l is true in all MODELS", Boundary07FollowsTest::allOfThem);
        Due.sentence("(there may be none)", Boundary07FollowsTest::none);
        Due.sentence("There's no MODEL then", Boundary07FollowsTest::noModelThen);
        Due.sentence("throws IllegalArgumentException", Boundary07FollowsTest::noSuchLiteral);
        Due.end();
    }

    // The first variable and the last: true in all of 512 models, or in all but one.
    private static void allOfThem() {
        for (int v : new int[] {1, 5, 10}) {
            for (int l = -v; l <= v; l += 2 * v) {
                ClauseCourt court = Due.courtOf(10);
                for (int other = 1; other <= 10; other++) {
                    court.literal(other == v ? l : other);
                }
                court.close();
                Due.same(l + " in all but one", court.follows(l), false);
                for (int other = 1; other <= 10; other++) {
                    if (other != v) {
                        court.assume(-other);
                    }
                }
                Due.same(l + " in the only one", court.follows(l), true);
                Due.clause(court, l);
                Due.same(l + " in all", court.follows(l), true);
                Due.same(-l + " in none", court.follows(-l), false);
                Due.same("no fault", court.count(5), 0);
            }
        }
        // With ten assumptions the question has all the literals that it can have.
        ClauseCourt ten = Due.courtOf(10);
        Due.assume(ten, 1, 2, 3, 4, 5, 6, 7, 8, 9, 10);
        Due.same("the last of ten assumptions", ten.follows(10), true);
        Due.assume(ten, 1, 2, 3, 4, 5, 6, 7, 8, 9, -10);
        Due.same("its contrary", ten.follows(10), false);
        Due.same("the literal asked for is no assumption", ten.count(3), 0);
        Due.same("nor a clause", ten.count(1), 0);
        Due.same("nor is one told", ten.count(2), 0);
        Due.same("and it is gone", ten.models(), 40);
    }

    private static void none() {
        for (int variables = 1; variables <= 10; variables++) {
            ClauseCourt court = Due.courtOf(variables);
            for (int v = 1; v <= variables; v++) {
                Due.assume(court, variables, -variables);
                Due.same("follows(" + v + "), contrary assumptions", court.follows(v), true);
                Due.assume(court, variables, -variables);
                Due.same("follows(-" + v + "), contrary assumptions", court.follows(-v), true);
            }
            Due.same("there are some without them", court.follows(variables), false);
            court.close();
            for (int v = 1; v <= variables; v++) {
                Due.same("follows(" + v + "), an empty clause", court.follows(v), true);
                Due.same("follows(-" + v + "), an empty clause", court.follows(-v), true);
            }
            Due.same("no fault", court.count(5), 0);
        }
    }

    private static void noModelThen() {
        for (int l = -1; l <= 1; l += 2) {
            ClauseCourt court = Due.courtOf(1);
            Due.clause(court, 1);
            court.solve();
            Due.same("count(4) before", court.count(4), 1);
            Due.same("follows(" + l + ")", court.follows(l), l == 1);
            Due.same("count(4) behind", court.count(4), 0);
            Due.missing("value(1) behind", () -> court.value(1));
            court.solve();
            Due.same("count(4) behind solve", court.count(4), 1);
        }
    }

    private static void noSuchLiteral() {
        for (Consumer<ClauseCourt> past : Twins.PASTS) {
            for (int l : new int[] {0, 4, -4, 11, -11, 33, -33, Integer.MAX_VALUE, Integer.MIN_VALUE}) {
                Twins.bad("follows(" + l + ")", () -> {
                    ClauseCourt court = Due.courtOf(3);
                    past.accept(court);
                    court.literal(3);
                    court.assume(-3);
                    return court;
                }, court -> court.follows(l));
            }
        }
        Due.fine("follows(3)", () -> Due.courtOf(3).follows(3));
        Due.fine("follows(-3)", () -> Due.courtOf(3).follows(-3));
    }
}
