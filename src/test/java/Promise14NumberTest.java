/** "The number of a's class among all classes, in the order of their forms, from 0 on." */
public final class Promise14NumberTest {
    public static void main(String[] args) throws ReflectiveOperationException {
        Sentences.run(Promise14NumberTest.class);
    }

    private static void answers(Checks c, int a, int want) {
        FourTable x = Held.object(7, a);
        c.due("number of " + a, x.number(7), want);
        Held.onlyChanged(c, "number of " + a, x, 7, a);
    }

    static void theFirstClassHasNumberZero(Checks c) {
        answers(c, 0, 0);
        answers(c, 65535, 0);
    }

    static void theSecondClassHasNumberOne(Checks c) {
        answers(c, 1, 1);
        answers(c, 32768, 1);
        answers(c, 65534, 1);
        answers(c, 32767, 1);
    }

    static void theLastClassHasNumber221(Checks c) {
        answers(c, 27030, 221);
        answers(c, 38505, 221);
    }

    static void theLastClassButOne(Checks c) {
        answers(c, 15555, 220);
        answers(c, 49980, 220);
    }

    static void thoseBetween(Checks c) {
        answers(c, 255, 21);
        answers(c, 43690, 21);
        answers(c, 14295, 31);
        answers(c, 27581, 187);
    }

    static void noNumberIsLeftOut(Checks c) {
        for (int n = 0; n < 222; n++) {
            FourTable x = new FourTable();
            x.set(0, x.classForm(n));
            c.due("number of classForm(" + n + ")", x.number(0), n);
        }
    }

    static void ofTheFirstAndTheLastRegister(Checks c) {
        c.due("number(0)", Held.object(0, 27030).number(0), 221);
        c.due("number(15)", Held.object(15, 27030).number(15), 221);
    }

    static void theAnswerFollowsEveryChangeOfTheRegister(Checks c) {
        Follows.everyChangeOfRegister7(c, x -> x.number(7));
    }

    static void noSuchRegister(Checks c) {
        Refused.noRegister(c, (x, n) -> x.number(n));
    }

    static void aNumberAfterARefusedOne(Checks c) {
        FourTable x = Held.object(15, 38505);
        c.dueThrow("number(16)", IllegalArgumentException.class, () -> x.number(16));
        c.due("number(15)", x.number(15), 221);
    }
}
