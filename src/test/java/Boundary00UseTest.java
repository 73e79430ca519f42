import java.util.List;
import java.util.function.Consumer;

/** The section "What it is": how long an object is used. */
public final class Boundary00UseTest {
    private static final int LAST = 512;

    public static void main(String[] args) {
        Due.sentence("An object is used for at most 512 calls after it has been made", () -> {
            lastCallOfEachKind();
            lastCallThatIsRefused();
            fullRows();
            questionsToTheEnd();
            longestProofsToTheEnd();
        });
        Due.sentence("what later calls answer is free", Boundary00UseTest::laterCalls);
        Due.end();
    }

    // The variables, a clause of the last two, and then questions in turn, some answered "no".
    private static ClauseCourt used(int variables, int calls) {
        ClauseCourt court = Due.courtOf(variables);
        Due.clause(court, variables, variables - 1);
        for (int made = variables + 3; made < calls; made++) {
            askInTurn(court, variables, calls - made);
        }
        return court;
    }

    // The last turn, 1, is a question, so that no assumption waits behind it.
    private static void askInTurn(ClauseCourt court, int variables, int turn) {
        switch (turn % 6) {
            case 0:
                court.assume(-variables);
                break;
            case 5:
                court.assume(1 - variables);
                break;
            case 4:
                court.solve();
                break;
            case 3:
                court.models();
                break;
            case 2:
                court.assume(-variables);
                break;
            default:
                court.follows(variables - 1);
                break;
        }
    }

    private static ClauseCourt usedThen(int variables, Consumer<ClauseCourt> calls, int howMany) {
        ClauseCourt court = used(variables, LAST - 1 - howMany);
        calls.accept(court);
        return court;
    }

    private static void lastCallOfEachKind() {
        Consumer<ClauseCourt> nothing = court -> { };
        Due.same("variable", used(9, LAST - 1).variable(), 10);
        Due.fine("literal", () -> used(10, LAST - 1).literal(-10));
        Due.same("close", used(10, LAST - 1).close(), 1);
        Due.fine("assume", () -> used(10, LAST - 1).assume(-10));
        Due.same("solve", used(10, LAST - 1).solve(), true);
        Due.same("solve, no", usedThen(10, court -> Due.assume(court, -10, -9), 2).solve(), false);
        Due.same("follows", usedThen(10, court -> court.assume(-10), 1).follows(9), true);
        Due.same("follows, no", usedThen(10, nothing, 0).follows(9), false);
        Due.same("models", used(10, LAST - 1).models(), 40);
        Due.same("models, none", usedThen(10, court -> Due.assume(court, -9, -10), 2).models(), 0);
        Due.same("value", usedThen(10, ClauseCourt::solve, 1).value(10), true);
        for (int what = 0; what <= 6; what++) {
            int[] want = {10, 1, 2, 3, 1, 0, -1};
            Due.same("count(" + what + ")", usedThen(10, court -> {
                court.solve();
                court.literal(1);
                court.literal(2);
                Due.assume(court, 1, 2, 3);
            }, 6).count(what), want[what]);
        }
    }

    private static void lastCallThatIsRefused() {
        Due.refused("variable", used(10, LAST - 1)::variable);
        Due.refused("literal", () -> usedThen(10, court -> {
            for (int i = 0; i < 12; i++) {
                court.literal(1);
            }
        }, 12).literal(1));
        Due.refused("assume", () -> usedThen(10, court -> {
            for (int i = 0; i < 10; i++) {
                court.assume(1);
            }
        }, 10).assume(1));
        Due.bad("literal", () -> used(10, LAST - 1).literal(11));
        Due.bad("assume", () -> used(10, LAST - 1).assume(0));
        Due.bad("follows", () -> used(10, LAST - 1).follows(-11));
        Due.bad("value", () -> used(10, LAST - 1).value(11));
        Due.missing("value", () -> used(10, LAST - 1).value(10));
    }

    // All variables and all clauses that there may be: 510 calls.
    private static ClauseCourt full() {
        ClauseCourt court = Due.courtOf(10);
        for (int i = 0; i < 500; i++) {
            court.close();
        }
        return court;
    }

    private static void fullRows() {
        Due.refused("close of a full one", full()::close);
        Consumer<ClauseCourt> solve = court -> Due.same("solve of a full one", court.solve(), false);
        Consumer<ClauseCourt> models = court -> Due.same("models of a full one", court.models(), 0);
        Consumer<ClauseCourt> follows = court -> Due.same("follows of a full one", court.follows(-10), true);
        for (Consumer<ClauseCourt> question : List.of(solve, models, follows)) {
            ClauseCourt court = full();
            question.accept(court);
            Due.same("no fault, call 512", court.count(5), 0);
        }

        // As many clauses as 512 calls can tell that are not empty; the last one alone says no.
        for (int last = -1; last <= 1; last += 2) {
            ClauseCourt court = Due.courtOf(1);
            for (int i = 0; i < 254; i++) {
                Due.clause(court, 1);
            }
            Due.same("its number", Due.clause(court, last), 254);
            Due.same("solve, call 512", court.solve(), last == 1);
        }
    }

    private static void questionsToTheEnd() {
        ClauseCourt court = Due.courtOf(10);
        for (int made = 10; made < LAST; made++) {
            switch (made % 3) {
                case 0:
                    Due.same("models, call " + (made + 1), court.models(), 40);
                    break;
                case 1:
                    Due.same("solve, call " + (made + 1), court.solve(), true);
                    break;
                default:
                    Due.same("follows, call " + (made + 1), court.follows(10), false);
                    break;
            }
        }
    }

    // Every clause of all the variables 5 to 10, so that each "no" has a proof of many steps; of
    // seven variables they would be more than 512 calls can tell.
    private static void longestProofsToTheEnd() {
        ClauseCourt court = Due.courtOf(10);
        for (int signs = 0; signs < 64; signs++) {
            for (int v = 5; v <= 10; v++) {
                court.literal((signs >> (v - 5) & 1) == 1 ? v : -v);
            }
            court.close();
        }
        for (int made = 10 + 64 * 7; made < LAST - 1; made++) {
            switch (made % 3) {
                case 0:
                    Due.same("models, call " + (made + 1), court.models(), 0);
                    break;
                case 1:
                    Due.same("solve, call " + (made + 1), court.solve(), false);
                    break;
                default:
                    Due.same("follows, call " + (made + 1), court.follows(1), true);
                    break;
            }
        }
        Due.same("no fault, call 512", court.count(5), 0);
    }

    private static void laterCalls() {
        ClauseCourt court = used(10, LAST);
        int number = 1;
        for (int i = 0; i < 20000; i++) {
            number = number * 1103515245 + 12345;
            int argument = (number >> 8) % 13;
            String thrown = Due.thrownBy(() -> later(court, argument));
            boolean allowed = thrown.equals("nothing") || thrown.equals("IllegalArgumentException")
                || thrown.equals("IllegalStateException") || thrown.equals("NoSuchElementException");
            Due.same("later call " + i + " threw " + thrown + ": as the face allows", allowed, true);
        }
    }

    private static void later(ClauseCourt court, int argument) {
        switch (Math.floorMod(argument * 31 + court.count(2) + court.count(3), 9)) {
            case 0:
                court.variable();
                break;
            case 1:
                court.literal(argument);
                break;
            case 2:
                court.close();
                break;
            case 3:
                court.assume(argument);
                break;
            case 4:
                court.solve();
                break;
            case 5:
                court.follows(argument);
                break;
            case 6:
                court.models();
                break;
            case 7:
                court.value(argument);
                break;
            default:
                court.count(argument);
                break;
        }
    }
}
