/** "r becomes variable i. Throws .. also when there is none." */
public final class Promise04VariableTest {
    public static void main(String[] args) throws ReflectiveOperationException {
        Sentences.run(Promise04VariableTest.class);
    }

    private static void becomes(Checks c, int r, int before, int i, int want) {
        FourTable x = Held.object(r, before);
        x.variable(r, i);
        Held.onlyChanged(c, "variable(" + r + ", " + i + ") over " + before, x, r, want);
    }

    static void theFirstVariable(Checks c) {
        becomes(c, 5, 1234, 0, 0b1010101010101010);
    }

    static void theSecondVariable(Checks c) {
        becomes(c, 5, 1234, 1, 0b1100110011001100);
    }

    static void theThirdVariable(Checks c) {
        becomes(c, 5, 1234, 2, 0b1111000011110000);
    }

    static void theLastVariable(Checks c) {
        becomes(c, 5, 1234, 3, 0b1111111100000000);
    }

    static void theFirstAndTheLastRegister(Checks c) {
        becomes(c, 0, 1234, 3, 65280);
        becomes(c, 15, 1234, 0, 43690);
    }

    static void nothingOfTheEarlierTableIsLeft(Checks c) {
        becomes(c, 5, 0, 2, 61680);
        becomes(c, 5, 65535, 2, 61680);
    }

    static void noSuchRegister(Checks c) {
        Refused.noRegister(c, (x, n) -> x.variable(n, 0));
    }

    static void noSuchVariable(Checks c) {
        Refused.noVariable(c, (x, n) -> x.variable(15, n));
    }

    static void neitherRegisterNorVariable(Checks c) {
        Refused.call(c, "variable(16, 4)", x -> x.variable(16, 4));
        Refused.call(c, "variable(-1, -1)", x -> x.variable(-1, -1));
    }

    static void aVariableAfterARefusedOne(Checks c) {
        FourTable x = Held.object();
        c.dueThrow("variable(5, 4)", IllegalArgumentException.class, () -> x.variable(5, 4));
        x.variable(5, 3);
        Held.onlyChanged(c, "variable(5, 3)", x, 5, 65280);
    }
}
