import java.util.function.Consumer;
import java.util.function.Supplier;

/** The section "Terms": its limits, its exceptions, and which comes first. */
public final class Boundary00TermsTest {
    // Numbers that a shift, a mask, a narrower type or a change of sign would take for others.
    private static final int[] FAR = {
        31, 32, 33, 42, 63, 64, 65, 127, 128, 129, 255, 256, 257, 1023, 1024, 1025, 32767, 32768, 32769,
        65535, 65536, 65537, 1 << 20, 1 << 30, (1 << 30) + 1, Integer.MAX_VALUE - 1, Integer.MAX_VALUE,
        Integer.MIN_VALUE, Integer.MIN_VALUE + 1, Integer.MIN_VALUE + 2, Integer.MIN_VALUE + 10,
    };

    public static void main(String[] args) {
        Due.sentence("VARIABLES, at most 10", Boundary00TermsTest::tenVariables);
        Due.sentence("numbered from 1", Boundary00TermsTest::numberedFromOne);
        Due.sentence("A LITERAL l: VARIABLE l, if it's above 0; that VARIABLE -l is false, if it's below", () -> {
            everyLiteral();
            meaningOfLiterals();
        });
        Due.sentence("A CLAUSE: at most 12 LITERALS", Boundary00TermsTest::twelveLiterals);
        Due.sentence("it's true if one is", () -> {
            oneOfTwelve();
            noneOfNone();
        });
        Due.sentence("ASSUMPTIONS: at most 10 LITERALS", Boundary00TermsTest::tenAssumptions);
        Due.sentence("for one question", Boundary00TermsTest::forOneQuestion);
        Due.sentence("A MODEL: a value for each VARIABLE, so that all CLAUSES, and the question's ASSUMPTIONS,"
            + " are true", Boundary00TermsTest::modelOfAll);
        Due.sentence("As numbers, VARIABLE 1 highest, false 0: THE MODEL of a question is the least one",
            Boundary00TermsTest::leastOfEach);
        Due.sentence("\"Bad\" is IllegalArgumentException (no such LITERAL, VARIABLE)", Boundary00TermsTest::bad);
        Due.sentence("REFUSED is IllegalStateException (too many)", Boundary00TermsTest::tooMany);
        Due.sentence("\"missing\" is java.util.NoSuchElementException", Boundary00TermsTest::missing);
        Due.sentence("A refused call changes nothing", () -> {
            refusedChangesNothing();
            badChangesNothing();
            missingChangesNothing();
        });
        Due.sentence("Bad comes before REFUSED", Boundary00TermsTest::badBeforeRefused);
        Due.sentence("and before missing", Boundary00TermsTest::badBeforeMissing);
        Due.sentence("All memory is the class's own rows", Boundary00TermsTest::rowsOfItsOwn);
        Due.end();
    }

    private static void tell(ClauseCourt court, int times, int l) {
        for (int i = 0; i < times; i++) {
            court.literal(l);
        }
    }

    private static void assume(ClauseCourt court, int times, int l) {
        for (int i = 0; i < times; i++) {
            court.assume(l);
        }
    }

    private static void tenVariables() {
        ClauseCourt court = Due.courtOf(9);
        Due.same("the tenth", court.variable(), 10);
        Due.refused("the eleventh", court::variable);
        Due.same("count(0)", court.count(0), 10);
        Due.fine("literal(10)", () -> court.literal(10));
        Due.fine("literal(-10)", () -> court.literal(-10));
        Due.bad("literal(11)", () -> court.literal(11));
        Due.bad("literal(-11)", () -> court.literal(-11));
        Due.refused("and again", court::variable);
        Due.same("solve", court.solve(), true);
        Due.model("of ten", court, "0000000000");
        Due.bad("value(11)", () -> court.value(11));
    }

    private static void numberedFromOne() {
        ClauseCourt court = new ClauseCourt();
        Due.same("the first", court.variable(), 1);
        Due.fine("literal(1)", () -> court.literal(1));
        Due.bad("literal(0)", () -> court.literal(0));
        court.close();
        court.solve();
        Due.same("value(1)", court.value(1), true);
        Due.bad("value(0)", () -> court.value(0));
        Due.same("the second", court.variable(), 2);
    }

    private static void everyLiteral() {
        for (int variables = 0; variables <= 10; variables++) {
            for (int l = -26; l <= 26; l++) {
                literalOf(variables, l, l != 0 && l <= variables && l >= -variables);
            }
            for (int l : FAR) {
                literalOf(variables, l, false);
                literalOf(variables, -l, false);
            }
        }
    }

    private static void literalOf(int variables, int l, boolean there) {
        ClauseCourt court = Due.courtOf(variables);
        oneOf("literal(" + l + ") of " + variables, there, () -> court.literal(l));
        oneOf("assume(" + l + ") of " + variables, there, () -> court.assume(l));
        Due.counts("behind both", court, variables, 0, there ? 1 : 0, there ? 1 : 0, 0, 0);
        oneOf("follows(" + l + ") of " + variables, there, () -> court.follows(l));
    }

    private static void oneOf(String what, boolean there, Due.Call call) {
        if (there) {
            Due.fine(what, call);
        } else {
            Due.bad(what, call);
        }
    }

    private static void meaningOfLiterals() {
        for (int v = 1; v <= 10; v++) {
            for (int l = -v; l <= v; l += 2 * v) {
                ClauseCourt court = Due.courtOf(10);
                Due.assume(court, l);
                Due.same("solve under " + l, court.solve(), true);
                for (int other = 1; other <= 10; other++) {
                    Due.same("value(" + other + ") under " + l, court.value(other), other == l);
                }
                Due.clause(court, l);
                Due.same(l + " follows", court.follows(l), true);
                Due.same(-l + " doesn't", court.follows(-l), false);
                Due.clause(court, -l);
                Due.same("not both", court.solve(), false);
            }
        }
    }

    private static void twelveLiterals() {
        ClauseCourt court = Due.courtOf(10);
        for (int i = 1; i <= 11; i++) {
            court.literal(i <= 10 ? i : -1);
        }
        Due.fine("the twelfth", () -> court.literal(-2));
        Due.same("count(2)", court.count(2), 12);
        Due.refused("the thirteenth", () -> court.literal(-3));
        Due.refused("the thirteenth, which is there", () -> court.literal(3));
        Due.same("count(2)", court.count(2), 12);
        Due.same("close", court.close(), 0);
        Due.same("count(2)", court.count(2), 0);
        for (int i = 0; i < 12; i++) {
            Due.fine("the next one's", () -> court.literal(4));
        }
        Due.refused("the next one's thirteenth", () -> court.literal(-4));
        Due.same("close", court.close(), 1);
        Due.same("the refused ones don't count", court.follows(4), true);
    }

    // Ten times 1, then 2, then 3: were the last ones lost, or the thirteenth taken, it would show.
    private static void oneOfTwelve() {
        for (int one = 1; one <= 4; one++) {
            ClauseCourt court = Due.courtOf(4);
            tell(court, 10, 1);
            court.literal(2);
            court.literal(3);
            Due.refused("the thirteenth", () -> court.literal(4));
            court.close();
            for (int v = 1; v <= 4; v++) {
                court.assume(v == one ? v : -v);
            }
            Due.same("true by " + one, court.solve(), one <= 3);
        }
        ClauseCourt twelve = Due.courtOf(10);
        for (int i = 1; i <= 12; i++) {
            twelve.literal(i <= 10 ? -i : 10 - i);
        }
        twelve.close();
        Due.assume(twelve, 1, 2, 3, 4, 5, 6, 7, 8, 9);
        Due.same("the tenth is left", twelve.follows(-10), true);
        Due.assume(twelve, 1, 2, 3, 4, 5, 6, 7, 8, 9, 10);
        Due.same("none is left", twelve.solve(), false);
    }

    private static void noneOfNone() {
        for (int variables = 0; variables <= 10; variables++) {
            ClauseCourt court = Due.courtOf(variables);
            Due.same("solve before it", court.solve(), true);
            court.close();
            Due.same("an empty clause", court.solve(), false);
            Due.same("models", court.models(), 0);
            Due.counts("afterwards", court, variables, 1, 0, 0, 0, 0);
        }
    }

    private static void tenAssumptions() {
        ClauseCourt court = Due.courtOf(10);
        for (int v = 1; v <= 9; v++) {
            court.assume(v);
        }
        Due.fine("the tenth", () -> court.assume(-10));
        Due.same("count(3)", court.count(3), 10);
        Due.refused("the eleventh", () -> court.assume(10));
        Due.refused("the eleventh, which is there", () -> court.assume(-10));
        Due.same("count(3)", court.count(3), 10);
        Due.same("solve", court.solve(), true);
        Due.model("under the ten", court, "1111111110");

        ClauseCourt same = Due.courtOf(2);
        assume(same, 9, 1);
        same.assume(2);
        Due.refused("the eleventh", () -> same.assume(-1));
        Due.same("the tenth counts", same.follows(2), true);
    }

    private static void forOneQuestion() {
        ClauseCourt court = Due.courtOf(3);
        for (int question = 0; question < 9; question++) {
            assume(court, 9, 3);
            Due.fine("the tenth", () -> court.assume(-1));
            Due.refused("the eleventh", () -> court.assume(-2));
            Due.same("under ten, question " + question, ask(court, question % 3), question % 3 == 1 ? 2 : 1);
            Due.same("count(3)", court.count(3), 0);
            Due.same("under none, question " + question, ask(court, question % 3), new int[] {1, 8, 0}[question % 3]);
        }
    }

    private static int ask(ClauseCourt court, int question) {
        switch (question) {
            case 0:
                return court.solve() ? 1 : 0;
            case 1:
                return court.models();
            default:
                return court.follows(3) ? 1 : 0;
        }
    }

    private static void modelOfAll() {
        ClauseCourt none = new ClauseCourt();
        Due.same("no variable, no clause: solve", none.solve(), true);
        Due.same("count(4)", none.count(4), 1);
        Due.same("models", none.models(), 1);
        none.close();
        Due.same("no variable, an empty clause: solve", none.solve(), false);
        Due.same("count(4)", none.count(4), 0);
        Due.same("models", none.models(), 0);

        ClauseCourt told = Due.courtOf(1);
        told.literal(1);
        Due.same("a clause that is not closed isn't asked for: models", told.models(), 2);
        Due.same("nor by follows", told.follows(1), false);
        Due.same("nor by solve", told.solve(), true);
        Due.model("nor by solve", told, "0");
        told.close();
        Due.same("then it is: models", told.models(), 1);
        Due.same("and by follows", told.follows(1), true);
        Due.same("and by solve", told.solve(), true);
        Due.model("and by solve", told, "1");

        // The first clause, the last one and every one between can each say no.
        for (int at = 0; at < 40; at++) {
            ClauseCourt court = Due.courtOf(10);
            for (int i = 0; i < 40; i++) {
                Due.clause(court, i == at ? -10 : 10, i == at ? -10 : 9 - i % 9);
            }
            Due.assume(court, -1, -2, -3, -4, -5, -6, -7, -8, -9);
            Due.same("clause " + at + " of 40 says no", court.solve(), false);
        }
        // So can the first assumption, the last one and every one between.
        for (int at = 1; at <= 10; at++) {
            ClauseCourt court = Due.courtOf(10);
            Due.clause(court, at);
            for (int v = 1; v <= 10; v++) {
                court.assume(-v);
            }
            Due.same("assumption " + at + " of 10 says no", court.solve(), false);
            Due.same("without them", court.solve(), true);
        }
    }

    /** Clauses that leave the numbers from least on: a 1 of it is there, or a 0 before it is 1. */
    static ClauseCourt numbersFrom(int least) {
        ClauseCourt court = Due.courtOf(10);
        for (int v = 1; v <= 10; v++) {
            if (digit(least, v) == 1) {
                for (int before = 1; before < v; before++) {
                    if (digit(least, before) == 0) {
                        court.literal(before);
                    }
                }
                Due.clause(court, v);
            }
        }
        return court;
    }

    private static int digit(int number, int v) {
        return number >> (10 - v) & 1;
    }

    private static void leastOfEach() {
        for (int least = 0; least < 1024; least++) {
            ClauseCourt court = numbersFrom(least);
            Due.same("solve from " + least, court.solve(), true);
            int found = 0;
            for (int v = 1; v <= 10; v++) {
                found = found * 2 + (court.value(v) ? 1 : 0);
            }
            Due.same("THE MODEL from " + least, found, least);
            Due.same("no fault", court.count(5), 0);
        }
    }

    private static void bad() {
        ClauseCourt court = Due.courtOf(3);
        court.solve();
        for (int l : new int[] {0, 4, -4, Integer.MIN_VALUE, Integer.MAX_VALUE}) {
            Due.bad("literal(" + l + ")", () -> court.literal(l));
            Due.bad("assume(" + l + ")", () -> court.assume(l));
            Due.bad("value(" + l + ")", () -> court.value(l));
            Due.bad("follows(" + l + ")", () -> court.follows(l));
        }
        Due.bad("value(-1): a literal, but no variable", () -> court.value(-1));
        Due.bad("value(-3): a literal, but no variable", () -> court.value(-3));
        Due.counts("afterwards", court, 3, 0, 0, 0, 1, 0);
    }

    private static void tooMany() {
        Due.refused("variable", Due.courtOf(10)::variable);
        ClauseCourt court = Due.courtOf(1);
        tell(court, 12, 1);
        Due.refused("literal", () -> court.literal(1));
        assume(court, 10, 1);
        Due.refused("assume", () -> court.assume(1));
        ClauseCourt full = new ClauseCourt();
        for (int i = 0; i < 500; i++) {
            full.close();
        }
        Due.refused("close", full::close);
        Due.counts("afterwards", court, 1, 0, 12, 10, 0, 0);
        Due.counts("afterwards", full, 0, 500, 0, 0, 0, 0);
    }

    private static void missing() {
        ClauseCourt court = Due.courtOf(1);
        Due.missing("value(1) before a question", () -> court.value(1));
        court.solve();
        Due.fine("value(1) behind solve", () -> court.value(1));
        Due.assume(court, 1, -1);
        court.solve();
        Due.missing("value(1) behind solve, no", () -> court.value(1));
    }

    private static Supplier<ClauseCourt> made(int variables, Consumer<ClauseCourt> past, int told, int assumed) {
        return () -> {
            ClauseCourt court = Due.courtOf(variables);
            past.accept(court);
            tell(court, told, -2);
            assume(court, assumed, 2);
            return court;
        };
    }

    private static void refusedChangesNothing() {
        for (Consumer<ClauseCourt> past : Twins.PASTS) {
            for (int few = 0; few <= 1; few++) {
                Twins.refused("an eleventh variable", made(10, past, few, few), ClauseCourt::variable);
                for (int l : new int[] {1, -1, 2, -2, 3, -3}) {
                    Twins.refused("a thirteenth literal " + l, made(3, past, 12, few), court -> court.literal(l));
                    Twins.refused("an eleventh assumption " + l, made(3, past, few, 10), court -> court.assume(l));
                }
            }
        }
    }

    private static void badChangesNothing() {
        for (Consumer<ClauseCourt> past : Twins.PASTS) {
            for (int few = 0; few <= 1; few++) {
                for (int l : new int[] {0, 4, -4, 11, -11, 33, Integer.MAX_VALUE, Integer.MIN_VALUE}) {
                    Twins.bad("literal " + l, made(3, past, few, few), court -> court.literal(l));
                    Twins.bad("assumption " + l, made(3, past, few, few), court -> court.assume(l));
                    Twins.bad("follows " + l, made(3, past, few, few), court -> court.follows(l));
                    Twins.bad("value " + l, made(3, past, few, few), court -> court.value(l));
                }
            }
        }
    }

    private static void missingChangesNothing() {
        Consumer<ClauseCourt> none = court -> {
            Due.assume(court, 1, -1);
            court.solve();
        };
        for (int few = 0; few <= 1; few++) {
            Twins.missing("value 2 before a question", made(3, court -> { }, few, few), court -> court.value(2));
            Twins.missing("value 2 behind a no", made(3, none, few, few), court -> court.value(2));
        }
    }

    private static void badBeforeRefused() {
        Consumer<ClauseCourt> nothing = court -> { };
        for (int l : new int[] {0, 4, -4, 11, -11, Integer.MIN_VALUE}) {
            Twins.bad("a thirteenth literal " + l, made(3, nothing, 12, 10), court -> court.literal(l));
            Twins.bad("an eleventh assumption " + l, made(3, nothing, 12, 10), court -> court.assume(l));
        }
        Due.refused("a good thirteenth", () -> made(3, nothing, 12, 10).get().literal(3));
        Due.refused("a good eleventh", () -> made(3, nothing, 12, 10).get().assume(3));
    }

    private static void badBeforeMissing() {
        Consumer<ClauseCourt> nothing = court -> { };
        for (int v : new int[] {0, -1, -3, 4, 11, Integer.MIN_VALUE, Integer.MAX_VALUE}) {
            Twins.bad("value " + v + ", no model", made(3, nothing, 1, 1), court -> court.value(v));
        }
        Due.missing("a good one", () -> made(3, nothing, 1, 1).get().value(3));
        Due.bad("of no variables", () -> new ClauseCourt().value(1));
    }

    // One object is used while another is filled; neither shows in the other.
    private static void rowsOfItsOwn() {
        ClauseCourt other = Due.courtOf(2);
        Due.clause(other, 1, 2);
        other.solve();
        other.literal(-2);
        other.assume(-1);

        ClauseCourt full = Due.courtOf(10);
        full.assume(10);
        full.solve();
        Due.model("the full one", full, "0000000001");
        tell(full, 12, 10);
        assume(full, 10, 1);
        Due.counts("the other", other, 2, 1, 1, 1, 1, 0);
        Due.model("the other", other, "01");
        Due.same("the other's own assumption", other.follows(2), true);
        Due.same("the full one's own clauses", full.follows(1), true);
        for (int i = 0; i < 400; i++) {
            full.close();
        }
        Due.same("the full one", full.models(), 0);
        Due.counts("the full one", full, 10, 400, 0, 0, 0, 0);

        Due.same("the other's third variable", other.variable(), 3);
        Due.same("the other's second clause", other.close(), 1);
        Due.same("the other's own clauses", other.solve(), true);
        Due.model("the other", other, "100");
        Due.same("of the full one none", full.count(4), 0);
        Due.counts("a new one", new ClauseCourt(), 0, 0, 0, 0, 0, 0);
    }
}
