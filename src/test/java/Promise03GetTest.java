/** "A register's table." */
public final class Promise03GetTest {
    public static void main(String[] args) throws ReflectiveOperationException {
        Sentences.run(Promise03GetTest.class);
    }

    static void theFirstRegistersTable(Checks c) {
        c.due("get(0)", Held.object(0, 43690).get(0), 43690);
    }

    static void theLastRegistersTable(Checks c) {
        c.due("get(15)", Held.object(15, 43690).get(15), 43690);
    }

    static void theLeastAndTheGreatestTable(Checks c) {
        c.due("get(9) of 0", Held.object(9, 0).get(9), 0);
        c.due("get(9) of 65535", Held.object(9, 65535).get(9), 65535);
    }

    static void toGetChangesNothing(Checks c) {
        FourTable x = Held.object();
        for (int r = 0; r < 16; r++) {
            c.due("get(" + r + ")", x.get(r), Held.table(r));
            c.due("get(" + r + ") again", x.get(r), Held.table(r));
        }
        Held.allLeft(c, "get", x);
    }

    static void theAnswerFollowsEveryChangeOfTheRegister(Checks c) {
        Follows.everyChangeOfRegister7(c, x -> x.get(7));
    }

    static void noSuchRegister(Checks c) {
        Refused.noRegister(c, (x, n) -> x.get(n));
    }

    static void aGetAfterARefusedOne(Checks c) {
        FourTable x = Held.object();
        c.dueThrow("get(16)", IllegalArgumentException.class, () -> x.get(16));
        c.due("get(15)", x.get(15), Held.table(15));
        c.dueThrow("get(-1)", IllegalArgumentException.class, () -> x.get(-1));
        c.due("get(0)", x.get(0), Held.table(0));
    }
}
