public final class Promise03LiteralTest {
    public static void main(String[] args) {
        signs();
        repeated();
        twelveAtMost();
        wrongOnes();
        notYetClosed();
        Due.end();
    }

    private static void signs() {
        ClauseCourt court = Due.courtOf(2);
        Due.clause(court, 1);
        Due.clause(court, -2);
        Due.same("only 1 and not 2", court.models(), 1);
        Due.same("solve", court.solve(), true);
        Due.model("1 and not 2", court, "10");
    }

    private static void repeated() {
        ClauseCourt court = Due.courtOf(2);
        court.literal(2);
        Due.fine("the same again", () -> court.literal(2));
        Due.same("both were told", court.count(2), 2);
        court.close();
        Due.same("2 2 is 2", court.follows(2), true);
        Due.fine("both signs", () -> Due.clause(court, 1, -1));
        Due.same("1 -1 asks nothing", court.models(), 2);
    }

    private static void twelveAtMost() {
        ClauseCourt court = Due.courtOf(10);
        for (int i = 1; i <= 10; i++) {
            court.literal(i);
        }
        court.literal(-1);
        court.literal(1);
        Due.same("twelve are told", court.count(2), 12);
        Due.refused("a thirteenth", () -> court.literal(5));
        Due.refused("a thirteenth that is new", () -> court.literal(-7));
        Due.bad("bad comes before refused", () -> court.literal(11));
        Due.same("still twelve", court.count(2), 12);
        court.close();
        Due.same("none of the next", court.count(2), 0);
        Due.fine("the next clause's", () -> court.literal(5));

        ClauseCourt full = Due.courtOf(2);
        for (int i = 0; i < 12; i++) {
            full.literal(1);
        }
        Due.refused("a thirteenth", () -> full.literal(-1));
        Due.refused("a thirteenth", () -> full.literal(2));
        full.close();
        Due.same("the refused ones aren't in the clause", full.follows(1), true);
    }

    private static void wrongOnes() {
        ClauseCourt court = Due.courtOf(3);
        court.literal(1);
        int[] none = {0, 4, -4, 5, 10, -10, 11, 32, 33, -33, Integer.MAX_VALUE, Integer.MIN_VALUE, Integer.MIN_VALUE + 1};
        for (int l : none) {
            Due.bad("literal(" + l + ") of three variables", () -> court.literal(l));
        }
        Due.same("none was told", court.count(2), 1);
        for (int l : new int[] {3, -3}) {
            Due.fine("literal(" + l + ")", () -> court.literal(l));
        }
        Due.same("two more", court.count(2), 3);
    }

    private static void notYetClosed() {
        ClauseCourt court = Due.courtOf(1);
        court.literal(1);
        Due.same("an open clause asks nothing", court.models(), 2);
        Due.same("and stays open", court.count(2), 1);
        court.literal(-1);
        court.close();
        Due.same("it is closed with all of its literals", court.models(), 2);
    }
}
