import java.util.List;
import java.util.function.Consumer;
import java.util.function.Supplier;

/**
 * That a call which throws changes nothing: an object that had the call answers everything as its
 * twin that never had it. To look may change an object too, so each look has a pair of its own.
 */
final class Twins {
    /** What may have happened to an object of two or more variables before a call is refused. */
    static final List<Consumer<ClauseCourt>> PASTS = List.of(
        court -> { },
        court -> Due.clause(court, 1, -2),
        court -> {
            Due.clause(court, 1, 2);
            court.solve();
        },
        court -> {
            Due.clause(court, 1);
            Due.clause(court, -1);
            court.solve();
        },
        court -> {
            Due.clause(court, -1, 2);
            court.solve();
            court.models();
        },
        court -> {
            Due.clause(court, 2);
            court.solve();
            court.follows(2);
        });

    // The looks below LITERAL_LOOKS take a literal.
    private static final int LITERAL_LOOKS = 3;
    private static final int LOOKS = 7;
    private static final int[] LITERALS = {1, -1, 2, -2, 3, -3, 10, -10, 0};
    private static final int FARTHEST = 11;

    private Twins() {
    }

    static void refused(String what, Supplier<ClauseCourt> maker, Consumer<ClauseCourt> call) {
        unchanged(what, maker, court -> Due.refused(what, () -> call.accept(court)));
    }

    static void bad(String what, Supplier<ClauseCourt> maker, Consumer<ClauseCourt> call) {
        unchanged(what, maker, court -> Due.bad(what, () -> call.accept(court)));
    }

    static void missing(String what, Supplier<ClauseCourt> maker, Consumer<ClauseCourt> call) {
        unchanged(what, maker, court -> Due.missing(what, () -> call.accept(court)));
    }

    private static void unchanged(String what, Supplier<ClauseCourt> maker, Consumer<ClauseCourt> call) {
        for (int look = 0; look < LOOKS; look++) {
            int literals = look < LITERAL_LOOKS ? LITERALS.length : 1;
            for (int i = 0; i < literals; i++) {
                ClauseCourt court = maker.get();
                call.accept(court);
                Due.same("behind " + what + ", look " + look + " with " + LITERALS[i],
                    answers(court, look, LITERALS[i]), answers(maker.get(), look, LITERALS[i]));
            }
        }
    }

    private static String answers(ClauseCourt court, int look, int l) {
        StringBuilder answers = new StringBuilder();
        tellState(court, answers);
        tell(answers, () -> first(court, look, l));
        tell(answers, court::close);
        tellState(court, answers);
        tell(answers, court::solve);
        tellState(court, answers);
        return answers.toString();
    }

    private static Object first(ClauseCourt court, int look, int l) {
        switch (look) {
            case 0:
                return court.follows(l);
            case 1:
                court.literal(l);
                return "told";
            case 2:
                court.assume(l);
                return "assumed";
            case 3:
                return court.solve();
            case 4:
                return court.models();
            case 5:
                return court.variable();
            default:
                return court.close();
        }
    }

    private static void tellState(ClauseCourt court, StringBuilder answers) {
        for (int what = -1; what <= 6; what++) {
            int which = what;
            tell(answers, () -> court.count(which));
        }
        for (int v = 0; v <= FARTHEST; v++) {
            int which = v;
            tell(answers, () -> court.value(which));
        }
    }

    private static void tell(StringBuilder answers, Supplier<Object> call) {
        try {
            answers.append(call.get());
        } catch (RuntimeException e) {
            answers.append(e.getClass().getSimpleName());
        }
        answers.append(' ');
    }
}
