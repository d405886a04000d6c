/** "How many tables the class of a has." */
public final class Promise12SizeTest {
    public static void main(String[] args) throws ReflectiveOperationException {
        Sentences.run(Promise12SizeTest.class);
    }

    private static void answers(Checks c, int a, int want) {
        FourTable x = Held.object(7, a);
        c.due("size of " + a, x.size(7), want);
        Held.onlyChanged(c, "size of " + a, x, 7, a);
    }

    static void theTableZeroAndTheTableOfAllOnesAreOneClass(Checks c) {
        answers(c, 0, 2);
        answers(c, 65535, 2);
    }

    static void theLastClassHasTwoToo(Checks c) {
        answers(c, 27030, 2);
        answers(c, 38505, 2);
    }

    static void aSinglePlaceOrAllButOne(Checks c) {
        answers(c, 1, 32);
        answers(c, 32768, 32);
        answers(c, 65534, 32);
        answers(c, 32767, 32);
    }

    static void theVariablesAndTheirInversesAreOneClass(Checks c) {
        answers(c, 43690, 8);
        answers(c, 65280, 8);
        answers(c, 255, 8);
    }

    static void theGreatestSizeIsThatOfAllWays(Checks c) {
        answers(c, 301, 768);
        answers(c, 14295, 768);
    }

    static void theSizesOfAllClassesTogetherAreAllTables(Checks c) {
        int sum = 0;
        for (int n = 0; n < 222; n++) {
            FourTable x = new FourTable();
            x.set(0, x.classForm(n));
            sum += x.size(0);
        }
        c.due("the sum of all sizes", sum, 65536);
    }

    static void ofTheFirstAndTheLastRegister(Checks c) {
        c.due("size(0)", Held.object(0, 4080).size(0), 12);
        c.due("size(15)", Held.object(15, 4080).size(15), 12);
    }

    static void theAnswerFollowsEveryChangeOfTheRegister(Checks c) {
        Follows.everyChangeOfRegister7(c, x -> x.size(7));
    }

    static void noSuchRegister(Checks c) {
        Refused.noRegister(c, (x, n) -> x.size(n));
    }

    static void aSizeAfterARefusedOne(Checks c) {
        FourTable x = Held.object(15, 301);
        c.dueThrow("size(16)", IllegalArgumentException.class, () -> x.size(16));
        c.due("size(15)", x.size(15), 768);
    }
}
