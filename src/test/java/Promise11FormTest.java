/** "r becomes the form of a: the least way that makes it of a." */
public final class Promise11FormTest {
    public static void main(String[] args) throws ReflectiveOperationException {
        Sentences.run(Promise11FormTest.class);
    }

    private static void answers(Checks c, int a, int form, int way) {
        FourTable x = Held.object(1, a);
        c.due("form of " + a + ": the way", x.form(0, 1), way);
        c.due("form of " + a, x.get(0), form);
        c.due("register a", x.get(1), a);
    }

    static void theTableZero(Checks c) {
        answers(c, 0, 0, 0);
    }

    static void theTableOfAllOnes(Checks c) {
        answers(c, 65535, 0, 1);
    }

    static void theLowestAndTheHighestPlaceAlone(Checks c) {
        answers(c, 1, 1, 0);
        answers(c, 32768, 1, 30);
    }

    static void allPlacesButTheLowestOrTheHighest(Checks c) {
        answers(c, 65534, 1, 1);
        answers(c, 32767, 1, 31);
    }

    static void theFormsOfAllClassesAreTheirOwn(Checks c) {
        for (int n = 0; n < 222; n++) {
            int form = new FourTable().classForm(n);
            answers(c, form, form, 0);
        }
    }

    static void theLastFormAndItsInverse(Checks c) {
        answers(c, 27030, 27030, 0);
        answers(c, 38505, 27030, 1);
    }

    static void theLeastOfSeveralWays(Checks c) {
        // The form is variable 3 inverted: by the result (n is 1) comes before by the mask (2 at least).
        answers(c, 65280, 255, 1);
        answers(c, 61680, 255, 33);
        answers(c, 52428, 255, 129);
        answers(c, 43690, 255, 577);
        answers(c, 21845, 255, 576);
    }

    static void theLastWayIsTheLeastOne(Checks c) {
        answers(c, 14295, 301, 767);
    }

    static void theWayThatIsAnsweredMakesTheForm(Checks c) {
        for (int k = 0; k < 500; k++) {
            FourTable x = Held.object(1, Samples.table(k));
            int way = x.form(0, 1);
            x.go(2, 1, way);
            c.due("go by the way that form answered for " + Samples.table(k), x.get(2), x.get(0));
        }
    }

    static void intoTheFirstAndTheLastRegister(Checks c) {
        FourTable x = Held.object(15, 14295);
        c.due("form(0, 15)", x.form(0, 15), 767);
        c.due("get(0)", x.get(0), 301);
        x = Held.object(0, 14295);
        c.due("form(15, 0)", x.form(15, 0), 767);
        c.due("get(15)", x.get(15), 301);
    }

    static void intoTheRegisterThatIsRead(Checks c) {
        FourTable x = Held.object(3, 14295);
        c.due("form(3, 3)", x.form(3, 3), 767);
        Held.onlyChanged(c, "form(3, 3)", x, 3, 301);
        c.due("form(3, 3) again", x.form(3, 3), 0);
        Held.onlyChanged(c, "form(3, 3) again", x, 3, 301);
    }

    static void theAnswerFollowsEveryChangeOfTheRegister(Checks c) {
        Follows.everyChangeOfRegister7(c, x -> x.form(0, 7));
        Follows.everyChangeOfRegister7(c, x -> {
            x.form(0, 7);
            return x.get(0);
        });
    }

    static void noSuchRegisterR(Checks c) {
        Refused.noRegister(c, (x, n) -> x.form(n, 1));
    }

    static void noSuchRegisterA(Checks c) {
        Refused.noRegister(c, (x, n) -> x.form(3, n));
    }

    static void neitherOfTheTwoRegisters(Checks c) {
        Refused.call(c, "form(16, 16)", x -> x.form(16, 16));
        Refused.call(c, "form(-1, 16)", x -> x.form(-1, 16));
    }

    static void aFormAfterARefusedOne(Checks c) {
        FourTable x = Held.object(1, 14295);
        c.dueThrow("form(16, 1)", IllegalArgumentException.class, () -> x.form(16, 1));
        c.due("form(15, 1)", x.form(15, 1), 767);
        c.due("get(15)", x.get(15), 301);
    }
}
