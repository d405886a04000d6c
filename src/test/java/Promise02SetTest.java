/** "A register becomes a table. Throws .. when there is no such register .., or it is no table." */
public final class Promise02SetTest {
    public static void main(String[] args) throws ReflectiveOperationException {
        Sentences.run(Promise02SetTest.class);
    }

    static void theFirstRegisterBecomesATable(Checks c) {
        Held.onlyChanged(c, "set(0, 7)", Held.object(0, 7), 0, 7);
    }

    static void theLastRegisterBecomesATable(Checks c) {
        Held.onlyChanged(c, "set(15, 7)", Held.object(15, 7), 15, 7);
    }

    static void theLeastTableIsTaken(Checks c) {
        Held.onlyChanged(c, "set(6, 0)", Held.object(6, 0), 6, 0);
    }

    static void theGreatestTableIsTaken(Checks c) {
        Held.onlyChanged(c, "set(6, 65535)", Held.object(6, 65535), 6, 65535);
    }

    static void eachSingleBitIsTaken(Checks c) {
        for (int x = 0; x < 16; x++) {
            Held.onlyChanged(c, "set(6, 1 << " + x + ")", Held.object(6, 1 << x), 6, 1 << x);
        }
    }

    static void aLaterTableTakesTheEarlierOnesPlace(Checks c) {
        FourTable x = Held.object(6, 65535);
        x.set(6, 1);
        c.due("get(6) after set to 65535, then to 1", x.get(6), 1);
        x.set(6, 0);
        c.due("get(6) after set to 0 at last", x.get(6), 0);
    }

    static void noSuchRegister(Checks c) {
        Refused.noRegister(c, (x, n) -> x.set(n, 5));
        Refused.noRegister(c, (x, n) -> x.set(n, 65535));
    }

    static void noTable(Checks c) {
        Refused.noTable(c, (x, n) -> x.set(0, n));
        Refused.noTable(c, (x, n) -> x.set(15, n));
    }

    static void neitherRegisterNorTable(Checks c) {
        Refused.call(c, "set(16, 65536)", x -> x.set(16, 65536));
        Refused.call(c, "set(-1, -1)", x -> x.set(-1, -1));
    }

    static void aSetAfterARefusedOne(Checks c) {
        FourTable x = Held.object();
        c.dueThrow("set(6, 65536)", IllegalArgumentException.class, () -> x.set(6, 65536));
        x.set(6, 65535);
        Held.onlyChanged(c, "set(6, 65535)", x, 6, 65535);
    }
}
