import java.util.function.Consumer;

/** Promise 2, variable: the first, the tenth, and the eleventh, which is refused. */
public final class Boundary02VariableTest {
    public static void main(String[] args) {
        Due.sentence("A VARIABLE more", Boundary02VariableTest::oneMore);
        Due.sentence("Answers its number", Boundary02VariableTest::itsNumber);
        Due.sentence("throws IllegalStateException", Boundary02VariableTest::eleventh);
        Due.end();
    }

    // At each number of variables: the next one isn't there, then it is, and it is free.
    private static void oneMore() {
        ClauseCourt court = new ClauseCourt();
        for (int v = 1; v <= 10; v++) {
            int next = v;
            Due.bad("literal(" + v + ") before", () -> court.literal(next));
            Due.bad("assume(-" + v + ") before", () -> court.assume(-next));
            Due.bad("follows(" + v + ") before", () -> court.follows(next));
            Due.bad("value(" + v + ") before", () -> court.value(next));
            court.variable();
            Due.same("count(0)", court.count(0), v);
            Due.same("models", court.models(), Math.min(40, 1 << v));
            Due.fine("assume(-" + v + ") behind", () -> court.assume(-next));
            Due.same("follows(" + v + ") behind", court.follows(-v), true);
            Due.fine("literal(" + v + ") behind", () -> court.literal(next));
        }
        Due.bad("literal(11)", () -> court.literal(11));
    }

    private static void itsNumber() {
        ClauseCourt court = new ClauseCourt();
        for (int v = 1; v <= 10; v++) {
            Due.same("variable", court.variable(), v);
            // Whatever comes between: it takes no number of a variable.
            court.literal(v);
            court.close();
            court.assume(v);
            court.solve();
            court.models();
            court.follows(-v);
        }
    }

    private static void eleventh() {
        for (Consumer<ClauseCourt> past : Twins.PASTS) {
            Twins.refused("the eleventh", () -> {
                ClauseCourt court = Due.courtOf(10);
                past.accept(court);
                court.assume(-10);
                return court;
            }, ClauseCourt::variable);
            ClauseCourt nine = Due.courtOf(9);
            past.accept(nine);
            Due.same("the tenth", nine.variable(), 10);
        }
        ClauseCourt court = Due.courtOf(10);
        for (int i = 0; i < 100; i++) {
            Due.refused("time and again", court::variable);
        }
        Due.same("count(0)", court.count(0), 10);
        Due.same("models", court.models(), 40);
        Due.bad("literal(11)", () -> court.literal(11));
    }
}
