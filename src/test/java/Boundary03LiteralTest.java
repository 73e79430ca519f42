/** Promise 3, literal: the first, one that is there, the twelfth, and the thirteenth. */
public final class Boundary03LiteralTest {
    public static void main(String[] args) {
        Due.sentence("The CLAUSE that's being told gets a LITERAL", Boundary03LiteralTest::getsOne);
        Due.sentence("(it may be there)", Boundary03LiteralTest::mayBeThere);
        Due.sentence("throws IllegalArgumentException", Boundary03LiteralTest::noSuchLiteral);
        Due.sentence("throws IllegalStateException", Boundary03LiteralTest::thirteenth);
        Due.end();
    }

    private static void getsOne() {
        for (int length = 1; length <= 12; length++) {
            ClauseCourt court = Due.courtOf(10);
            for (int i = 1; i <= length; i++) {
                int l = literalAt(i);
                Due.fine("literal " + i, () -> court.literal(l));
                Due.same("count(2)", court.count(2), i);
            }
            court.close();
            // With the others false, the last one that was told has to be true.
            for (int v = 1; v <= 10; v++) {
                if (v != Math.min(length, 10)) {
                    court.assume(-v);
                }
            }
            Due.same("the last of " + length, court.follows(literalAt(Math.min(length, 10))), true);
            Due.same("count(2) of the next one", court.count(2), 0);
        }
    }

    // 1 to 10, and then the first two again.
    private static int literalAt(int i) {
        return i <= 10 ? i : i - 10;
    }

    private static void mayBeThere() {
        for (int l = -1; l <= 1; l += 2) {
            int same = l;
            for (int times = 1; times <= 12; times++) {
                ClauseCourt court = Due.courtOf(2);
                for (int i = 1; i <= times; i++) {
                    Due.fine("literal " + l + ", time " + i, () -> court.literal(same));
                    Due.same("count(2)", court.count(2), i);
                }
                Due.same("close", court.close(), 0);
                Due.same(times + " times " + l + " is " + l, court.follows(l), true);
                Due.same("models", court.models(), 2);
            }
        }
        ClauseCourt contrary = Due.courtOf(2);
        contrary.literal(1);
        Due.fine("its contrary is there", () -> contrary.literal(-1));
        contrary.close();
        Due.same("always true", contrary.models(), 4);
        Due.same("no fault", contrary.count(5), 0);
    }

    private static void noSuchLiteral() {
        for (int told = 0; told <= 12; told++) {
            int before = told;
            for (int l : new int[] {0, 4, -4, 11, -11, 33, -33, Integer.MAX_VALUE, Integer.MIN_VALUE}) {
                Twins.bad("literal(" + l + ") behind " + told, () -> told(before), court -> court.literal(l));
            }
        }
    }

    private static ClauseCourt told(int literals) {
        ClauseCourt court = Due.courtOf(3);
        Due.clause(court, 1, 2);
        court.solve();
        for (int i = 0; i < literals; i++) {
            court.literal(i == 11 ? -2 : -1);
        }
        return court;
    }

    private static void thirteenth() {
        for (int l : new int[] {1, -1, 2, -2, 3, -3}) {
            Twins.refused("literal(" + l + ") behind twelve", () -> told(12), court -> court.literal(l));
            Due.fine("literal(" + l + ") behind eleven", () -> told(11).literal(l));
        }
        ClauseCourt court = told(12);
        for (int i = 0; i < 100; i++) {
            Due.refused("time and again", () -> court.literal(3));
        }
        Due.same("count(2)", court.count(2), 12);
        Due.same("solve: the next one isn't asked for", court.solve(), true);
        Due.refused("behind a question too", () -> court.literal(3));
        Due.same("close", court.close(), 1);
        Due.assume(court, 1);
        Due.same("the twelfth counts, the refused don't", court.follows(-2), true);
        Due.fine("the next one's first", () -> court.literal(3));
        Due.same("count(2)", court.count(2), 1);
    }
}
