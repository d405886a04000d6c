/** "r becomes what a is where variable i is v (whatever that variable is)." */
public final class Promise07PartTest {
    public static void main(String[] args) throws ReflectiveOperationException {
        Sentences.run(Promise07PartTest.class);
    }

    private static void answers(Checks c, int a, int i, boolean v, int want) {
        FourTable x = Held.object(1, a);
        x.part(0, 1, i, v);
        c.due("part of " + a + " where variable " + i + " is " + v, x.get(0), want);
        c.due("register a", x.get(1), a);
    }

    static void ofTheTableZero(Checks c) {
        for (int i = 0; i < 4; i++) {
            answers(c, 0, i, false, 0);
            answers(c, 0, i, true, 0);
        }
    }

    static void ofTheTableOfAllOnes(Checks c) {
        for (int i = 0; i < 4; i++) {
            answers(c, 65535, i, false, 65535);
            answers(c, 65535, i, true, 65535);
        }
    }

    static void ofTheLowestPlaceAlone(Checks c) {
        int[] where0 = {0x0003, 0x0005, 0x0011, 0x0101};
        for (int i = 0; i < 4; i++) {
            answers(c, 1, i, false, where0[i]);
            answers(c, 1, i, true, 0);
        }
    }

    static void ofTheHighestPlaceAlone(Checks c) {
        int[] where1 = {0xC000, 0xA000, 0x8800, 0x8080};
        for (int i = 0; i < 4; i++) {
            answers(c, 32768, i, false, 0);
            answers(c, 32768, i, true, where1[i]);
        }
    }

    static void ofAVariableWhereItselfIsKnown(Checks c) {
        int[] variables = {43690, 52428, 61680, 65280};
        for (int k = 0; k < 4; k++) {
            for (int i = 0; i < 4; i++) {
                answers(c, variables[k], i, false, i == k ? 0 : variables[k]);
                answers(c, variables[k], i, true, i == k ? 65535 : variables[k]);
            }
        }
    }

    static void whateverThatVariableIsTheResultIsTheSame(Checks c) {
        for (int i = 0; i < 4; i++) {
            for (int k = 0; k < 2; k++) {
                FourTable x = Held.object(1, 0x37D7);
                x.part(0, 1, i, k == 1);
                c.due("depends(0, " + i + ") after part", x.depends(0, i), false);
            }
        }
    }

    static void intoTheFirstAndTheLastRegister(Checks c) {
        FourTable x = Held.object(15, 1);
        x.part(0, 15, 3, false);
        c.due("part(0, 15, 3, false)", x.get(0), 257);
        x = Held.object(0, 1);
        x.part(15, 0, 0, false);
        c.due("part(15, 0, 0, false)", x.get(15), 3);
    }

    static void intoTheRegisterThatIsRead(Checks c) {
        FourTable x = Held.object(3, 0x37D7);
        x.part(3, 3, 3, true);
        Held.onlyChanged(c, "part(3, 3, 3, true)", x, 3, 0x3737);
        x = Held.object(3, 0x37D7);
        x.part(3, 3, 3, false);
        Held.onlyChanged(c, "part(3, 3, 3, false)", x, 3, 0xD7D7);
    }

    static void theResultFollowsEveryChangeOfARegisterThatIsRead(Checks c) {
        Follows.everyChangeOfRegister7(c, x -> {
            x.part(0, 7, 0, false);
            return x.get(0);
        });
        Follows.everyChangeOfRegister7(c, x -> {
            x.part(0, 7, 3, true);
            return x.get(0);
        });
    }

    static void noSuchRegisterR(Checks c) {
        Refused.noRegister(c, (x, n) -> x.part(n, 1, 0, true));
        Refused.noRegister(c, (x, n) -> x.part(n, 1, 0, false));
    }

    static void noSuchRegisterA(Checks c) {
        Refused.noRegister(c, (x, n) -> x.part(3, n, 0, true));
        Refused.noRegister(c, (x, n) -> x.part(3, n, 0, false));
    }

    static void noSuchVariable(Checks c) {
        Refused.noVariable(c, (x, n) -> x.part(3, 1, n, true));
        Refused.noVariable(c, (x, n) -> x.part(3, 1, n, false));
    }

    static void severalThatThereAreNot(Checks c) {
        Refused.call(c, "part(16, -1, 4, true)", x -> x.part(16, -1, 4, true));
        Refused.call(c, "part(3, 16, -1, false)", x -> x.part(3, 16, -1, false));
    }

    static void aPartAfterARefusedOne(Checks c) {
        FourTable x = Held.object(1, 32768);
        c.dueThrow("part(3, 1, 4, true)", IllegalArgumentException.class, () -> x.part(3, 1, 4, true));
        x.part(3, 1, 3, true);
        c.due("part(3, 1, 3, true)", x.get(3), 32896);
    }
}
