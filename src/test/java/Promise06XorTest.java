/** "r becomes a XOR b." */
public final class Promise06XorTest {
    public static void main(String[] args) throws ReflectiveOperationException {
        Sentences.run(Promise06XorTest.class);
    }

    private static void answers(Checks c, int a, int b, int want) {
        FourTable x = Held.object(1, a);
        x.set(2, b);
        x.xor(0, 1, 2);
        c.due("xor of " + a + ", " + b, x.get(0), want);
        c.due("register a", x.get(1), a);
        c.due("register b", x.get(2), b);
    }

    static void eachOfTheFourPairsOfBits(Checks c) {
        answers(c, 0b0000111100110101, 0b0101010100110011, 0b0101101000000110);
    }

    static void withTheTableZero(Checks c) {
        answers(c, 27030, 0, 27030);
        answers(c, 0, 27030, 27030);
        answers(c, 0, 0, 0);
    }

    static void withTheTableOfAllOnes(Checks c) {
        answers(c, 27030, 65535, 38505);
        answers(c, 65535, 27030, 38505);
        answers(c, 65535, 0, 65535);
        answers(c, 65535, 65535, 0);
    }

    static void intoTheFirstAndTheLastRegister(Checks c) {
        FourTable x = Held.object();
        x.xor(0, 15, 14);
        Held.onlyChanged(c, "xor(0, 15, 14)", x, 0, Held.table(15) ^ Held.table(14));
        x = Held.object();
        x.xor(15, 0, 1);
        Held.onlyChanged(c, "xor(15, 0, 1)", x, 15, Held.table(0) ^ Held.table(1));
    }

    static void intoTheRegisterOfA(Checks c) {
        FourTable x = Held.object();
        x.xor(3, 3, 4);
        Held.onlyChanged(c, "xor(3, 3, 4)", x, 3, Held.table(3) ^ Held.table(4));
    }

    static void intoTheRegisterOfB(Checks c) {
        FourTable x = Held.object();
        x.xor(3, 4, 3);
        Held.onlyChanged(c, "xor(3, 4, 3)", x, 3, Held.table(3) ^ Held.table(4));
    }

    static void oneRegisterForAll(Checks c) {
        FourTable x = Held.object();
        x.xor(3, 3, 3);
        Held.onlyChanged(c, "xor(3, 3, 3)", x, 3, 0);
    }

    static void theResultFollowsEveryChangeOfARegisterThatIsRead(Checks c) {
        Follows.everyChangeOfRegister7(c, x -> {
            x.xor(0, 7, 15);
            return x.get(0);
        });
        Follows.everyChangeOfRegister7(c, x -> {
            x.xor(0, 15, 7);
            return x.get(0);
        });
    }

    static void noSuchRegisterR(Checks c) {
        Refused.noRegister(c, (x, n) -> x.xor(n, 1, 2));
    }

    static void noSuchRegisterA(Checks c) {
        Refused.noRegister(c, (x, n) -> x.xor(3, n, 2));
    }

    static void noSuchRegisterB(Checks c) {
        Refused.noRegister(c, (x, n) -> x.xor(3, 1, n));
    }

    static void severalThatThereAreNot(Checks c) {
        Refused.call(c, "xor(16, 16, 16)", x -> x.xor(16, 16, 16));
        Refused.call(c, "xor(3, -1, -1)", x -> x.xor(3, -1, -1));
    }

    static void anXorAfterARefusedOne(Checks c) {
        FourTable x = Held.object();
        c.dueThrow("xor(3, 1, 16)", IllegalArgumentException.class, () -> x.xor(3, 1, 16));
        x.xor(3, 1, 15);
        Held.onlyChanged(c, "xor(3, 1, 15)", x, 3, Held.table(1) ^ Held.table(15));
    }
}
