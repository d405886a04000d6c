/**
 * "The least number of products that are within a, and of which one at least is 1 wherever a is 1 (0 for the table
 * 0)."
 */
public final class Promise19CoverTest {
    public static void main(String[] args) throws ReflectiveOperationException {
        Sentences.run(Promise19CoverTest.class);
    }

    private static void answers(Checks c, int a, int want) {
        FourTable x = Held.object(7, a);
        c.due("cover of " + a, x.cover(7), want);
        Held.onlyChanged(c, "cover of " + a, x, 7, a);
    }

    static void zeroForTheTableZero(Checks c) {
        answers(c, 0, 0);
    }

    static void oneForTheTableOfAllOnes(Checks c) {
        answers(c, 65535, 1);
    }

    static void oneForEachSingleProduct(Checks c) {
        for (int x = 0; x < 16; x++) {
            answers(c, 1 << x, 1);
        }
        answers(c, 43690, 1);
        answers(c, 65280, 1);
        answers(c, 255, 1);
    }

    static void fourForAllPlacesButOne(Checks c) {
        for (int x = 0; x < 16; x++) {
            answers(c, 65535 ^ (1 << x), 4);
        }
    }

    static void eachNumberFromZeroToTheMost(Checks c) {
        int[] tables = {0, 1, 6, 22, 278, 5761, 5736, 5865, 27030};
        for (int n = 0; n < tables.length; n++) {
            answers(c, tables[n], n);
        }
    }

    static void theMostIsEight(Checks c) {
        answers(c, 27030, 8);
        answers(c, 38505, 8);
    }

    static void fewerThanThereArePrimeOnes(Checks c) {
        answers(c, 0x7E7E, 3);
        answers(c, 27581, 7);
        answers(c, 6014, 6);
        answers(c, 1918, 5);
    }

    static void ofTheFirstAndTheLastRegister(Checks c) {
        c.due("cover(0)", Held.object(0, 27030).cover(0), 8);
        c.due("cover(15)", Held.object(15, 27030).cover(15), 8);
    }

    static void manyAndThenNoneInOneObject(Checks c) {
        FourTable x = Held.object(7, 27581);
        x.set(8, 0);
        c.due("cover(7)", x.cover(7), 7);
        c.due("cover(8)", x.cover(8), 0);
        c.due("cover(7) again", x.cover(7), 7);
    }

    static void nothingOfAnEarlierTableIsUsed(Checks c) {
        // The inverses of all variables are prime in 32767; that of variable 2 alone would cover 6, but is not within.
        FourTable x = Held.object(7, 32767);
        x.set(8, 6);
        c.due("cover(7)", x.cover(7), 4);
        c.due("cover(8) after cover(7)", x.cover(8), 2);
        c.due("primes(7)", x.primes(7), 4);
        c.due("cover(8) after primes(7)", x.cover(8), 2);
    }

    static void everyTableOfARowAsInAnObjectOfItsOwn(Checks c) {
        FourTable x = new FourTable();
        for (int k = 0; k < 250; k++) {
            int table = Samples.table(k);
            x.set(k % 16, table);
            int alone = Held.object(3, table).cover(3);
            c.due("cover of " + table + " as number " + k + " of the row", x.cover(k % 16), alone);
        }
    }

    static void theAnswerFollowsEveryChangeOfTheRegister(Checks c) {
        Follows.everyChangeOfRegister7(c, x -> x.cover(7));
    }

    static void noSuchRegister(Checks c) {
        Refused.noRegister(c, (x, n) -> x.cover(n));
    }

    static void aCoverAfterARefusedOne(Checks c) {
        FourTable x = Held.object(15, 27030);
        c.dueThrow("cover(16)", IllegalArgumentException.class, () -> x.cover(16));
        c.due("cover(15)", x.cover(15), 8);
    }
}
