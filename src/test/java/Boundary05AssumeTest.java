import java.util.function.Consumer;

/** Promise 5, assume: the first, the tenth, and the eleventh, which is refused. */
public final class Boundary05AssumeTest {
    public static void main(String[] args) {
        Due.sentence("An ASSUMPTION more", Boundary05AssumeTest::oneMore);
        Due.sentence("for the next question", Boundary05AssumeTest::nextQuestion);
        Due.sentence("throws IllegalArgumentException", Boundary05AssumeTest::noSuchLiteral);
        Due.sentence("throws IllegalStateException", Boundary05AssumeTest::eleventh);
        Due.end();
    }

    private static void oneMore() {
        for (int many = 0; many <= 10; many++) {
            ClauseCourt court = Due.courtOf(10);
            for (int v = 1; v <= many; v++) {
                int l = v % 2 == 0 ? v : -v;
                Due.fine("assume " + v, () -> court.assume(l));
                Due.same("count(3)", court.count(3), v);
            }
            Due.same("models under " + many, court.models(), Math.min(40, 1 << (10 - many)));
            Due.same("count(3)", court.count(3), 0);
        }
        // One that is there is one more, too.
        ClauseCourt same = Due.courtOf(2);
        for (int i = 1; i <= 10; i++) {
            Due.fine("the same", () -> same.assume(-2));
            Due.same("count(3)", same.count(3), i);
        }
        Due.same("models", same.models(), 2);
        Due.assume(same, 1, -1);
        Due.same("a literal and its contrary", same.count(3), 2);
        Due.same("models", same.models(), 0);
    }

    private static void nextQuestion() {
        ClauseCourt court = Due.courtOf(2);
        court.assume(2);
        // What is no question leaves it there.
        court.count(3);
        court.variable();
        court.literal(1);
        court.close();
        Due.missing("value(1)", () -> court.value(1));
        Due.bad("follows(4)", () -> court.follows(4));
        Due.same("count(3)", court.count(3), 1);
        Due.same("solve", court.solve(), true);
        Due.model("under it", court, "110");
        Due.same("count(3)", court.count(3), 0);
        Due.same("solve", court.solve(), true);
        Due.model("under none", court, "100");
    }

    private static ClauseCourt assumed(int many, Consumer<ClauseCourt> past) {
        ClauseCourt court = Due.courtOf(3);
        past.accept(court);
        for (int i = 0; i < many; i++) {
            court.assume(i == 9 ? -3 : 2);
        }
        return court;
    }

    private static void noSuchLiteral() {
        for (int many = 0; many <= 10; many += 5) {
            int before = many;
            for (Consumer<ClauseCourt> past : Twins.PASTS) {
                for (int l : new int[] {0, 4, -4, 11, -11, 33, -33, Integer.MAX_VALUE, Integer.MIN_VALUE}) {
                    Twins.bad("assume(" + l + ") behind " + many, () -> assumed(before, past), court -> court.assume(l));
                }
            }
        }
    }

    private static void eleventh() {
        Consumer<ClauseCourt> nothing = court -> { };
        for (int l : new int[] {1, -1, 2, -2, 3, -3}) {
            for (Consumer<ClauseCourt> past : Twins.PASTS) {
                Twins.refused("assume(" + l + ") behind ten", () -> assumed(10, past), court -> court.assume(l));
            }
            Due.fine("assume(" + l + ") behind nine", () -> assumed(9, nothing).assume(l));
        }
        ClauseCourt court = assumed(10, nothing);
        for (int i = 0; i < 100; i++) {
            Due.refused("time and again", () -> court.assume(1));
        }
        Due.same("count(3)", court.count(3), 10);
        Due.same("the tenth counts, the refused don't", court.models(), 2);
        Due.fine("the next question's first", () -> court.assume(1));
        Due.same("count(3)", court.count(3), 1);
    }
}
