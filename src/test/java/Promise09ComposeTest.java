/** "r becomes a of b, c, d, e: its value where variable 0 is what b is, 1 what c is, and so on." */
public final class Promise09ComposeTest {
    private static final int A = 0x37D7;

    public static void main(String[] args) throws ReflectiveOperationException {
        Sentences.run(Promise09ComposeTest.class);
    }

    private static FourTable with(int... tables) {
        FourTable x = Held.object();
        for (int k = 0; k < tables.length; k++) {
            x.set(k + 1, tables[k]);
        }
        return x;
    }

    private static void answers(Checks c, int want, int... tables) {
        FourTable x = with(tables);
        x.compose(0, 1, 2, 3, 4, 5);
        c.due("compose with a " + tables[0], x.get(0), want);
        for (int k = 0; k < tables.length; k++) {
            c.due("register " + (k + 1), x.get(k + 1), tables[k]);
        }
    }

    static void ofTheVariablesInTheirOrderIsTheTable(Checks c) {
        answers(c, A, A, 43690, 52428, 61680, 65280);
        answers(c, 1, 1, 43690, 52428, 61680, 65280);
        answers(c, 32768, 32768, 43690, 52428, 61680, 65280);
    }

    static void ofTheVariablesBackwards(Checks c) {
        answers(c, 0x0100, 0x0002, 65280, 61680, 52428, 43690);
        answers(c, 0x0010, 0x0004, 65280, 61680, 52428, 43690);
    }

    static void theFirstVariableIsWhatBIs(Checks c) {
        answers(c, 111, 43690, 111, 222, 333, 444);
    }

    static void theSecondVariableIsWhatCIs(Checks c) {
        answers(c, 222, 52428, 111, 222, 333, 444);
    }

    static void theThirdVariableIsWhatDIs(Checks c) {
        answers(c, 333, 61680, 111, 222, 333, 444);
    }

    static void theLastVariableIsWhatEIs(Checks c) {
        answers(c, 444, 65280, 111, 222, 333, 444);
    }

    static void theTablesZeroAndAllOnesAreLeft(Checks c) {
        answers(c, 0, 0, 111, 222, 333, 444);
        answers(c, 65535, 65535, 111, 222, 333, 444);
    }

    static void ofZerosIsTheLowestPlacesValue(Checks c) {
        answers(c, 65535, 1, 0, 0, 0, 0);
        answers(c, 0, 65534, 0, 0, 0, 0);
    }

    static void ofAllOnesIsTheHighestPlacesValue(Checks c) {
        answers(c, 65535, 32768, 65535, 65535, 65535, 65535);
        answers(c, 0, 32767, 65535, 65535, 65535, 65535);
    }

    static void intoTheFirstAndTheLastRegister(Checks c) {
        FourTable x = Held.object(15, 43690);
        x.compose(0, 15, 14, 13, 12, 11);
        c.due("compose(0, 15, 14, ..)", x.get(0), Held.table(14));
        x = Held.object(14, 65280);
        x.compose(15, 14, 13, 12, 11, 0);
        c.due("compose(15, 14, .., 0)", x.get(15), Held.table(0));
    }

    static void intoEachRegisterThatIsRead(Checks c) {
        int[] t = {A, 0x1357, 0x0FF1, 0x6996, 0xC0DE};
        int want = Model.compose(t[0], t[1], t[2], t[3], t[4]);
        for (int r = 1; r <= 5; r++) {
            FourTable x = with(t);
            x.compose(r, 1, 2, 3, 4, 5);
            for (int k = 1; k <= 5; k++) {
                c.due("compose(" + r + ", 1, 2, 3, 4, 5), register " + k, x.get(k), k == r ? want : t[k - 1]);
            }
        }
    }

    static void oneRegisterForAll(Checks c) {
        // Where the table is 0, its value of four zeros (place 0); where it is 1, of four ones (place 15).
        FourTable x = Held.object(3, 0x37D7);
        x.compose(3, 3, 3, 3, 3, 3);
        Held.onlyChanged(c, "compose(3, 3, 3, 3, 3, 3) of 0x37D7", x, 3, 0xC828);
        x = Held.object(3, 0xB7D6);
        x.compose(3, 3, 3, 3, 3, 3);
        Held.onlyChanged(c, "compose(3, 3, 3, 3, 3, 3) of 0xB7D6", x, 3, 0xB7D6);
    }

    static void theResultFollowsEveryChangeOfARegisterThatIsRead(Checks c) {
        Follows.everyChangeOfRegister7(c, x -> {
            x.compose(0, 7, 1, 2, 3, 4);
            return x.get(0);
        });
        Follows.everyChangeOfRegister7(c, x -> {
            x.compose(0, 15, 7, 2, 3, 4);
            return x.get(0);
        });
        Follows.everyChangeOfRegister7(c, x -> {
            x.compose(0, 15, 1, 7, 3, 4);
            return x.get(0);
        });
        Follows.everyChangeOfRegister7(c, x -> {
            x.compose(0, 15, 1, 2, 7, 4);
            return x.get(0);
        });
        Follows.everyChangeOfRegister7(c, x -> {
            x.compose(0, 15, 1, 2, 3, 7);
            return x.get(0);
        });
    }

    static void noSuchRegisterR(Checks c) {
        Refused.noRegister(c, (x, n) -> x.compose(n, 1, 2, 3, 4, 5));
    }

    static void noSuchRegisterA(Checks c) {
        Refused.noRegister(c, (x, n) -> x.compose(0, n, 2, 3, 4, 5));
    }

    static void noSuchRegisterB(Checks c) {
        Refused.noRegister(c, (x, n) -> x.compose(0, 1, n, 3, 4, 5));
    }

    static void noSuchRegisterC(Checks c) {
        Refused.noRegister(c, (x, n) -> x.compose(0, 1, 2, n, 4, 5));
    }

    static void noSuchRegisterD(Checks c) {
        Refused.noRegister(c, (x, n) -> x.compose(0, 1, 2, 3, n, 5));
    }

    static void noSuchRegisterE(Checks c) {
        Refused.noRegister(c, (x, n) -> x.compose(0, 1, 2, 3, 4, n));
    }

    static void severalThatThereAreNot(Checks c) {
        Refused.call(c, "compose(16, 16, 16, 16, 16, 16)", x -> x.compose(16, 16, 16, 16, 16, 16));
        Refused.call(c, "compose(0, 1, 2, 3, -1, 16)", x -> x.compose(0, 1, 2, 3, -1, 16));
    }

    static void aComposeAfterARefusedOne(Checks c) {
        FourTable x = with(65280, 111, 222, 333, 444);
        c.dueThrow("compose(0, 1, 2, 3, 4, 16)", IllegalArgumentException.class, () -> x.compose(0, 1, 2, 3, 4, 16));
        x.compose(0, 1, 2, 3, 4, 5);
        c.due("compose(0, 1, 2, 3, 4, 5)", x.get(0), 444);
    }
}
