public final class Promise01NewObjectTest {
    public static void main(String[] args) {
        ClauseCourt court = new ClauseCourt();
        Due.counts("new", court, 0, 0, 0, 0, 0, 0);
        Due.bad("value(1) of a new object", () -> court.value(1));
        Due.bad("literal(1) of a new object", () -> court.literal(1));
        Due.same("first variable", court.variable(), 1);
        Due.same("first clause", court.close(), 0);

        ClauseCourt other = new ClauseCourt();
        Due.counts("another new one", other, 0, 0, 0, 0, 0, 0);
        Due.same("solve of a new object", other.solve(), true);
        Due.same("a model without variables", other.count(4), 1);
        Due.same("models of a new object", other.models(), 1);
        Due.end();
    }
}
