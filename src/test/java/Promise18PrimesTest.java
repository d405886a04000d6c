/** "How many products are prime in a." */
public final class Promise18PrimesTest {
    public static void main(String[] args) throws ReflectiveOperationException {
        Sentences.run(Promise18PrimesTest.class);
    }

    private static void answers(Checks c, int a, int want) {
        FourTable x = Held.object(7, a);
        c.due("primes of " + a, x.primes(7), want);
        Held.onlyChanged(c, "primes of " + a, x, 7, a);
    }

    static void noneInTheTableZero(Checks c) {
        answers(c, 0, 0);
    }

    static void theProductOfNoVariablesAloneInTheTableOfAllOnes(Checks c) {
        answers(c, 65535, 1);
    }

    static void aProductOfOneVariable(Checks c) {
        answers(c, 43690, 1);
        answers(c, 65280, 1);
        answers(c, 255, 1);
    }

    static void aProductOfAllFourVariables(Checks c) {
        for (int x = 0; x < 16; x++) {
            answers(c, 1 << x, 1);
        }
    }

    static void allPlacesButOne(Checks c) {
        for (int x = 0; x < 16; x++) {
            answers(c, 65535 ^ (1 << x), 4);
        }
    }

    static void everyPlaceForItselfInTheLastForm(Checks c) {
        answers(c, 27030, 8);
        answers(c, 38505, 8);
    }

    static void primeOnesThatNoCoverNeedsCountToo(Checks c) {
        // 0x7E7E is 1 where variables 0, 1, 2 are not all equal: six products of two variables, three would do.
        answers(c, 0x7E7E, 6);
    }

    static void theMostThatThereAre(Checks c) {
        answers(c, 27581, 13);
    }

    static void ofTheFirstAndTheLastRegister(Checks c) {
        c.due("primes(0)", Held.object(0, 6014).primes(0), 12);
        c.due("primes(15)", Held.object(15, 6014).primes(15), 12);
    }

    static void manyAndThenNoneInOneObject(Checks c) {
        FourTable x = Held.object(7, 27581);
        x.set(8, 0);
        c.due("primes(7)", x.primes(7), 13);
        c.due("primes(8)", x.primes(8), 0);
        c.due("primes(7) again", x.primes(7), 13);
    }

    static void theAnswerFollowsEveryChangeOfTheRegister(Checks c) {
        Follows.everyChangeOfRegister7(c, x -> x.primes(7));
    }

    static void noSuchRegister(Checks c) {
        Refused.noRegister(c, (x, n) -> x.primes(n));
    }

    static void aPrimesAfterARefusedOne(Checks c) {
        FourTable x = Held.object(15, 27581);
        c.dueThrow("primes(16)", IllegalArgumentException.class, () -> x.primes(16));
        c.due("primes(15)", x.primes(15), 13);
    }
}
