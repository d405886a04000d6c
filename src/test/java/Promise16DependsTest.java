/** "Whether a depends on variable i." */
public final class Promise16DependsTest {
    private static final int[] VARIABLES = {43690, 52428, 61680, 65280};

    public static void main(String[] args) throws ReflectiveOperationException {
        Sentences.run(Promise16DependsTest.class);
    }

    private static void answers(Checks c, int a, int i, boolean want) {
        FourTable x = Held.object(7, a);
        c.due("depends of " + a + " on " + i, x.depends(7, i), want);
        Held.onlyChanged(c, "depends of " + a, x, 7, a);
    }

    static void theTableZeroAndTheTableOfAllOnesOnNone(Checks c) {
        for (int i = 0; i < 4; i++) {
            answers(c, 0, i, false);
            answers(c, 65535, i, false);
        }
    }

    static void aVariableAndItsInverseOnItAlone(Checks c) {
        for (int k = 0; k < 4; k++) {
            for (int i = 0; i < 4; i++) {
                answers(c, VARIABLES[k], i, i == k);
                answers(c, 65535 ^ VARIABLES[k], i, i == k);
            }
        }
    }

    static void oneSinglePlaceIsEnough(Checks c) {
        for (int x = 0; x < 16; x++) {
            for (int i = 0; i < 4; i++) {
                answers(c, 1 << x, i, true);
                answers(c, 65535 ^ (1 << x), i, true);
            }
        }
    }

    static void onAllButTheFirstOrTheLastVariable(Checks c) {
        answers(c, 0x0003, 0, false);
        answers(c, 0x0003, 1, true);
        answers(c, 0x0003, 3, true);
        answers(c, 0x0101, 3, false);
        answers(c, 0x0101, 2, true);
        answers(c, 0x0101, 0, true);
    }

    static void ofTheFirstAndTheLastRegister(Checks c) {
        c.due("depends(0, 0)", Held.object(0, 43690).depends(0, 0), true);
        c.due("depends(0, 3)", Held.object(0, 43690).depends(0, 3), false);
        c.due("depends(15, 3)", Held.object(15, 65280).depends(15, 3), true);
        c.due("depends(15, 0)", Held.object(15, 65280).depends(15, 0), false);
    }

    static void theAnswerFollowsEveryChangeOfTheRegister(Checks c) {
        Follows.everyChangeOfRegister7(c, x -> x.depends(7, 0) ? 1 : 0);
        Follows.everyChangeOfRegister7(c, x -> x.depends(7, 1) ? 1 : 0);
        Follows.everyChangeOfRegister7(c, x -> x.depends(7, 2) ? 1 : 0);
        Follows.everyChangeOfRegister7(c, x -> x.depends(7, 3) ? 1 : 0);
    }

    static void noSuchRegister(Checks c) {
        Refused.noRegister(c, (x, n) -> x.depends(n, 0));
        Refused.noRegister(c, (x, n) -> x.depends(n, 3));
    }

    static void noSuchVariable(Checks c) {
        Refused.noVariable(c, (x, n) -> x.depends(0, n));
        Refused.noVariable(c, (x, n) -> x.depends(15, n));
    }

    static void noSuchVariableOfTheTableZero(Checks c) {
        for (int i : new int[] {-1, 4, Integer.MIN_VALUE, Integer.MAX_VALUE}) {
            c.dueThrow("depends(0, " + i + ")", IllegalArgumentException.class, () -> new FourTable().depends(0, i));
        }
    }

    static void neitherRegisterNorVariable(Checks c) {
        Refused.call(c, "depends(16, 4)", x -> x.depends(16, 4));
        Refused.call(c, "depends(-1, -1)", x -> x.depends(-1, -1));
    }

    static void aDependsAfterARefusedOne(Checks c) {
        FourTable x = Held.object(7, 65280);
        c.dueThrow("depends(7, 4)", IllegalArgumentException.class, () -> x.depends(7, 4));
        c.due("depends(7, 3)", x.depends(7, 3), true);
    }
}
