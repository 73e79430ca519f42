import java.lang.reflect.Field;

/** That the checker behind count(5) sees wrong proofs and wrong models, which no call can make. */
public final class CheckerTest {
    public static void main(String[] args) throws ReflectiveOperationException {
        goodProof();
        wrongProofs();
        wrongModels();
        wrongProofIsCounted();
        wrongModelIsCounted();
        Due.end();
    }

    private static int set(int... literals) {
        int set = 0;
        for (int l : literals) {
            set |= ClauseCourt.Literals.of(l);
        }
        return set;
    }

    // 0: 1 2, 1: 1 -2, 2: -1
    private static ClauseCourt.Docket docket() {
        ClauseCourt.Docket docket = new ClauseCourt.Docket();
        docket.give(set(1, 2));
        docket.give(set(1, -2));
        docket.give(set(-1));
        return docket;
    }

    private static void derive(ClauseCourt.Docket docket, int clause, int... links) {
        for (int link : links) {
            docket.link(link);
        }
        docket.derive(clause);
    }

    private static void seen(String what, ClauseCourt.Docket docket, boolean want) {
        ClauseCourt.Checker checker = new ClauseCourt.Checker();
        checker.checkProof(docket);
        Due.same(what + ": a fault", checker.faults() > 0, want);
    }

    private static void goodProof() {
        ClauseCourt.Docket docket = docket();
        derive(docket, set(1), 0, 1);
        derive(docket, 0, 3, 2);
        seen("a good proof", docket, false);
        docket.keep(3);
        derive(docket, 0, 0, 1, 2);
        seen("a good proof in one derivation", docket, false);
    }

    private static void wrongProofs() {
        ClauseCourt.Docket none = docket();
        seen("nothing derived", none, true);
        seen("nothing at all", new ClauseCourt.Docket(), true);

        ClauseCourt.Docket unfinished = docket();
        derive(unfinished, set(1), 0, 1);
        seen("not the empty clause", unfinished, true);

        ClauseCourt.Docket given = docket();
        given.give(0);
        seen("the empty clause given, not derived", given, true);

        ClauseCourt.Docket noLinks = docket();
        derive(noLinks, 0);
        seen("no links", noLinks, true);

        ClauseCourt.Docket leap = docket();
        derive(leap, 0, 0, 1);
        seen("more than was derived", leap, true);

        ClauseCourt.Docket weaker = docket();
        derive(weaker, set(1, 2), 0, 1);
        derive(weaker, 0, 0, 1, 2);
        seen("another clause than was derived", weaker, true);

        ClauseCourt.Docket noClash = docket();
        noClash.give(set(3));
        derive(noClash, set(1, 2, 3), 0, 3);
        derive(noClash, 0, 0, 1, 2);
        seen("no literal to resolve on", noClash, true);

        ClauseCourt.Docket twoClashes = new ClauseCourt.Docket();
        twoClashes.give(set(1, 2));
        twoClashes.give(set(-1, -2));
        derive(twoClashes, 0, 0, 1);
        seen("two literals at once", twoClashes, true);

        ClauseCourt.Docket itself = docket();
        derive(itself, 0, 3);
        seen("its own reason", itself, true);

        ClauseCourt.Docket later = docket();
        derive(later, 0, 4);
        derive(later, 0, 3);
        seen("a later one's", later, true);

        ClauseCourt.Docket negative = docket();
        derive(negative, 0, -1);
        seen("a clause that isn't there", negative, true);
    }

    private static void wrongModels() {
        ClauseCourt.Docket docket = new ClauseCourt.Docket();
        docket.give(set(1, 2));
        docket.give(set(-1, 3));
        model("a model", docket, set(-1, 2, -3), 0);
        model("another", docket, set(1, -2, 3), 0);
        model("a false clause", docket, set(-1, -2, 3), 1);
        model("a variable without value", docket, set(1, 3), 1);
        model("a variable with both values", docket, set(1, 2, -2, 3), 1);
        model("a variable too many", docket, set(1, 2, 3, 4), 1);
        docket.give(ClauseCourt.Literals.opposite(set(1, -2, 3)));
        model("one that was counted", docket, set(1, -2, 3), 1);
    }

    private static void model(String what, ClauseCourt.Docket docket, int held, int want) {
        ClauseCourt.Checker checker = new ClauseCourt.Checker();
        checker.checkModel(docket, held, 3);
        Due.same(what + ": faults", checker.faults(), want);
    }

    private static Field field(String name) throws ReflectiveOperationException {
        Field field = ClauseCourt.class.getDeclaredField(name);
        field.setAccessible(true);
        return field;
    }

    // A lie in the docket: an empty clause that is said to be derived, from nothing.
    private static void wrongProofIsCounted() throws ReflectiveOperationException {
        for (int question = 0; question < 3; question++) {
            ClauseCourt court = Due.courtOf(2);
            Due.clause(court, 1, 2);
            ((ClauseCourt.Docket) field("docket").get(court)).derive(0);
            boolean no = question == 0 ? !court.solve() : question == 1 ? court.follows(1) : court.models() == 0;
            Due.same("question " + question + " believes the lie", no, true);
            Due.same("question " + question + ": it is counted", court.count(5) > 0, true);
            int faults = court.count(5);
            Due.same("the lie is gone", court.solve(), true);
            Due.same("the count stays", court.count(5), faults);
        }
    }

    // Of two variables one is hidden, so that the search stops with a value too many.
    private static void wrongModelIsCounted() throws ReflectiveOperationException {
        for (int question = 0; question < 3; question++) {
            ClauseCourt court = Due.courtOf(2);
            Due.clause(court, 2);
            field("variables").setInt(court, 1);
            boolean yes = question == 0 ? court.solve() : question == 1 ? !court.follows(1) : court.models() > 0;
            Due.same("question " + question + " finds one", yes, true);
            Due.same("question " + question + ": it is counted", court.count(5) > 0, true);
        }
    }
}
