/** "r becomes a, its variables i and j exchanged." */
public final class Promise08ExchangeTest {
    private static final int[] VARIABLES = {43690, 52428, 61680, 65280};

    public static void main(String[] args) throws ReflectiveOperationException {
        Sentences.run(Promise08ExchangeTest.class);
    }

    private static void answers(Checks c, int a, int i, int j, int want) {
        FourTable x = Held.object(1, a);
        x.exchange(0, 1, i, j);
        c.due("exchange of " + i + ", " + j + " in " + a, x.get(0), want);
        c.due("register a", x.get(1), a);
    }

    static void ofTheTablesZeroAndAllOnes(Checks c) {
        for (int i = 0; i < 4; i++) {
            for (int j = 0; j < 4; j++) {
                answers(c, 0, i, j, 0);
                answers(c, 65535, i, j, 65535);
            }
        }
    }

    static void ofTheLowestAndTheHighestPlace(Checks c) {
        for (int i = 0; i < 4; i++) {
            for (int j = 0; j < 4; j++) {
                answers(c, 1, i, j, 1);
                answers(c, 32768, i, j, 32768);
            }
        }
    }

    static void aVariableWithItselfLeavesTheTable(Checks c) {
        for (int i = 0; i < 4; i++) {
            answers(c, 0x37D7, i, i, 0x37D7);
        }
    }

    static void theFirstVariableWithTheLast(Checks c) {
        answers(c, 0x0002, 0, 3, 0x0100);
        answers(c, 0x0100, 0, 3, 0x0002);
    }

    static void theLastVariableWithTheFirst(Checks c) {
        answers(c, 0x0002, 3, 0, 0x0100);
        answers(c, 0x0100, 3, 0, 0x0002);
    }

    static void oneVariableBecomesTheOther(Checks c) {
        for (int k = 0; k < 4; k++) {
            for (int i = 0; i < 4; i++) {
                for (int j = 0; j < 4; j++) {
                    answers(c, VARIABLES[k], i, j, VARIABLES[k == i ? j : k == j ? i : k]);
                }
            }
        }
    }

    static void twiceIsAsBefore(Checks c) {
        for (int i = 0; i < 4; i++) {
            for (int j = 0; j < 4; j++) {
                FourTable x = Held.object(1, 0x37D7);
                x.exchange(0, 1, i, j);
                x.exchange(2, 0, i, j);
                c.due("exchange of " + i + ", " + j + " twice", x.get(2), 0x37D7);
            }
        }
    }

    static void intoTheFirstAndTheLastRegister(Checks c) {
        FourTable x = Held.object(15, 2);
        x.exchange(0, 15, 0, 1);
        c.due("exchange(0, 15, 0, 1)", x.get(0), 4);
        x = Held.object(0, 2);
        x.exchange(15, 0, 0, 2);
        c.due("exchange(15, 0, 0, 2)", x.get(15), 16);
    }

    static void intoTheRegisterThatIsRead(Checks c) {
        FourTable x = Held.object(3, 0x00F2);
        x.exchange(3, 3, 2, 3);
        Held.onlyChanged(c, "exchange(3, 3, 2, 3)", x, 3, 0x0F02);
    }

    static void theResultFollowsEveryChangeOfARegisterThatIsRead(Checks c) {
        Follows.everyChangeOfRegister7(c, x -> {
            x.exchange(0, 7, 1, 2);
            return x.get(0);
        });
    }

    static void noSuchRegisterR(Checks c) {
        Refused.noRegister(c, (x, n) -> x.exchange(n, 1, 0, 3));
    }

    static void noSuchRegisterA(Checks c) {
        Refused.noRegister(c, (x, n) -> x.exchange(3, n, 0, 3));
    }

    static void noSuchVariableI(Checks c) {
        Refused.noVariable(c, (x, n) -> x.exchange(3, 1, n, 0));
    }

    static void noSuchVariableJ(Checks c) {
        Refused.noVariable(c, (x, n) -> x.exchange(3, 1, 0, n));
    }

    static void noSuchVariableWithItself(Checks c) {
        Refused.noVariable(c, (x, n) -> x.exchange(3, 1, n, n));
    }

    static void severalThatThereAreNot(Checks c) {
        Refused.call(c, "exchange(16, -1, 4, -1)", x -> x.exchange(16, -1, 4, -1));
        Refused.call(c, "exchange(3, 1, 4, -1)", x -> x.exchange(3, 1, 4, -1));
    }

    static void anExchangeAfterARefusedOne(Checks c) {
        FourTable x = Held.object(1, 2);
        c.dueThrow("exchange(3, 1, 0, 4)", IllegalArgumentException.class, () -> x.exchange(3, 1, 0, 4));
        x.exchange(3, 1, 0, 3);
        c.due("exchange(3, 1, 0, 3)", x.get(3), 256);
    }
}
