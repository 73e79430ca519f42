import java.util.function.Consumer;

/** Promise 4, close: the empty clause, clause 0, clause 499, and the one behind it. */
public final class Boundary04CloseTest {
    public static void main(String[] args) {
        Due.sentence("That CLAUSE is one of the CLAUSES", Boundary04CloseTest::oneOfThem);
        Due.sentence("(500 at most)", Boundary04CloseTest::fiveHundred);
        Due.sentence("and the next one is told", Boundary04CloseTest::nextOne);
        Due.sentence("Answers its number, from 0 on", Boundary04CloseTest::itsNumber);
        Due.sentence("throws IllegalStateException", Boundary04CloseTest::refusedChangesNothing);
        Due.end();
    }

    private static void oneOfThem() {
        ClauseCourt court = Due.courtOf(2);
        court.literal(1);
        court.literal(2);
        Due.same("before", court.models(), 4);
        court.close();
        Due.same("behind", court.models(), 3);
        Due.same("count(1)", court.count(1), 1);
        court.close();
        Due.same("an empty one is one, too", court.count(1), 2);
        Due.same("never true", court.models(), 0);
        Due.same("all follows", court.follows(-1), true);
        Due.same("solve", court.solve(), false);
        Due.same("no fault", court.count(5), 0);
    }

    // Each run of calls stays within the 512 that an object is used for.
    private static ClauseCourt closed(int clauses) {
        ClauseCourt court = Due.courtOf(1);
        Due.clause(court, 1);
        court.solve();
        for (int i = 1; i < clauses; i++) {
            court.close();
        }
        return court;
    }

    private static void fiveHundred() {
        ClauseCourt court = closed(499);
        Due.same("the last", court.close(), 499);
        Due.refused("one too many", court::close);
        Due.same("count(1)", court.count(1), 500);
        Due.refused("and again", court::close);
        Due.same("solve", court.solve(), false);
        Due.same("no fault", court.count(5), 0);

        ClauseCourt told = closed(499);
        told.literal(-1);
        Due.same("the last, with a literal", told.close(), 499);
        told.literal(-1);
        Due.refused("one too many, with a literal", told::close);
        Due.same("count(2)", told.count(2), 1);
        Due.same("models", told.models(), 0);
    }

    private static void nextOne() {
        ClauseCourt court = Due.courtOf(10);
        for (int i = 0; i < 12; i++) {
            court.literal(1);
        }
        Due.refused("full", () -> court.literal(2));
        court.close();
        Due.same("count(2)", court.count(2), 0);
        for (int i = 0; i < 12; i++) {
            Due.fine("twelve of its own", () -> court.literal(-2));
        }
        Due.refused("full", () -> court.literal(2));
        court.close();
        Due.same("nothing of the first is in it", court.follows(-2), true);
        Due.same("nothing of it is in the first", court.follows(1), true);
        court.close();
        Due.same("nothing of it is in the empty one", court.solve(), false);
    }

    private static void itsNumber() {
        ClauseCourt court = new ClauseCourt();
        for (int i = 0; i < 500; i++) {
            Due.same("close", court.close(), i);
        }
        ClauseCourt asked = Due.courtOf(2);
        for (int i = 0; i < 60; i++) {
            asked.assume(1);
            asked.solve();
            asked.models();
            asked.follows(2);
            asked.literal(2);
            Due.same("questions take no number", asked.close(), i);
        }
    }

    private static void refusedChangesNothing() {
        behindRefused("count(0)", court -> Due.same("count(0)", court.count(0), 1));
        behindRefused("count(1)", court -> Due.same("count(1)", court.count(1), 500));
        behindRefused("count(2)", court -> Due.same("count(2)", court.count(2), 1));
        behindRefused("count(3)", court -> Due.same("count(3)", court.count(3), 1));
        behindRefused("count(4)", court -> Due.same("count(4)", court.count(4), 1));
        behindRefused("count(5)", court -> Due.same("count(5)", court.count(5), 0));
        behindRefused("value", court -> Due.model("of the question before", court, "1"));
        behindRefused("variable", court -> Due.same("variable", court.variable(), 2));
        behindRefused("solve", court -> Due.same("solve", court.solve(), false));
        behindRefused("follows", court -> Due.same("follows", court.follows(-1), true));
        behindRefused("models", court -> Due.same("models", court.models(), 0));
        behindRefused("close", court -> Due.refused("close", court::close));
        behindRefused("literal", court -> {
            court.literal(-1);
            Due.same("count(2)", court.count(2), 2);
        });
    }

    // 1 variable, 500 clauses with 1 literal, 1 question, 1 literal, 1 assumption: 505 calls.
    private static void behindRefused(String what, Consumer<ClauseCourt> look) {
        ClauseCourt court = closed(500);
        court.literal(-1);
        court.assume(1);
        Due.refused("close before " + what, court::close);
        look.accept(court);
    }
}
