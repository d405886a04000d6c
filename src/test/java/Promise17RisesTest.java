/** "Whether a is never less when variable i becomes 1 (1), never greater (-1), both (2), neither (0)." */
public final class Promise17RisesTest {
    private static final int[] VARIABLES = {43690, 52428, 61680, 65280};

    public static void main(String[] args) throws ReflectiveOperationException {
        Sentences.run(Promise17RisesTest.class);
    }

    private static void answers(Checks c, int a, int i, int want) {
        FourTable x = Held.object(7, a);
        c.due("rises of " + a + " with " + i, x.rises(7, i), want);
        Held.onlyChanged(c, "rises of " + a, x, 7, a);
    }

    static void bothForTheTableZeroAndTheTableOfAllOnes(Checks c) {
        for (int i = 0; i < 4; i++) {
            answers(c, 0, i, 2);
            answers(c, 65535, i, 2);
        }
    }

    static void neverLessForAVariableAndBothForTheOthers(Checks c) {
        for (int k = 0; k < 4; k++) {
            for (int i = 0; i < 4; i++) {
                answers(c, VARIABLES[k], i, i == k ? 1 : 2);
            }
        }
    }

    static void neverGreaterForAVariablesInverseAndBothForTheOthers(Checks c) {
        for (int k = 0; k < 4; k++) {
            for (int i = 0; i < 4; i++) {
                answers(c, 65535 ^ VARIABLES[k], i, i == k ? -1 : 2);
            }
        }
    }

    static void aSinglePlaceRisesWhereItsVariableIsOne(Checks c) {
        for (int x = 0; x < 16; x++) {
            for (int i = 0; i < 4; i++) {
                boolean isOne = (x >> i & 1) == 1;
                answers(c, 1 << x, i, isOne ? 1 : -1);
                answers(c, 65535 ^ (1 << x), i, isOne ? -1 : 1);
            }
        }
    }

    static void neitherForTheLastForm(Checks c) {
        for (int i = 0; i < 4; i++) {
            answers(c, 27030, i, 0);
            answers(c, 38505, i, 0);
        }
    }

    static void neitherWhereOnePairRisesAndOneFalls(Checks c) {
        // Place 0 against 1 falls, place 14 against 15 rises; and the same for variable 3 with 0, 8 and 7, 15.
        answers(c, 0x8001, 0, 0);
        answers(c, 0x8001, 1, 0);
        answers(c, 0x8001, 2, 0);
        answers(c, 0x8001, 3, 0);
    }

    static void ofTheFirstAndTheLastRegister(Checks c) {
        c.due("rises(0, 0)", Held.object(0, 43690).rises(0, 0), 1);
        c.due("rises(0, 3)", Held.object(0, 255).rises(0, 3), -1);
        c.due("rises(15, 0)", Held.object(15, 43690).rises(15, 0), 1);
        c.due("rises(15, 3)", Held.object(15, 255).rises(15, 3), -1);
    }

    static void theAnswerFollowsEveryChangeOfTheRegister(Checks c) {
        Follows.everyChangeOfRegister7(c, x -> x.rises(7, 0));
        Follows.everyChangeOfRegister7(c, x -> x.rises(7, 1));
        Follows.everyChangeOfRegister7(c, x -> x.rises(7, 2));
        Follows.everyChangeOfRegister7(c, x -> x.rises(7, 3));
    }

    static void noSuchRegister(Checks c) {
        Refused.noRegister(c, (x, n) -> x.rises(n, 0));
        Refused.noRegister(c, (x, n) -> x.rises(n, 3));
    }

    static void noSuchVariable(Checks c) {
        Refused.noVariable(c, (x, n) -> x.rises(0, n));
        Refused.noVariable(c, (x, n) -> x.rises(15, n));
    }

    static void noSuchVariableOfTheTableZero(Checks c) {
        for (int i : new int[] {-1, 4, Integer.MIN_VALUE, Integer.MAX_VALUE}) {
            c.dueThrow("rises(0, " + i + ")", IllegalArgumentException.class, () -> new FourTable().rises(0, i));
        }
    }

    static void neitherRegisterNorVariable(Checks c) {
        Refused.call(c, "rises(16, 4)", x -> x.rises(16, 4));
        Refused.call(c, "rises(-1, -1)", x -> x.rises(-1, -1));
    }

    static void aRisesAfterARefusedOne(Checks c) {
        FourTable x = Held.object(7, 255);
        c.dueThrow("rises(7, 4)", IllegalArgumentException.class, () -> x.rises(7, 4));
        c.due("rises(7, 3)", x.rises(7, 3), -1);
    }
}
