/** "The least way that makes b of a; -1 without one." */
public final class Promise13WayTest {
    public static void main(String[] args) throws ReflectiveOperationException {
        Sentences.run(Promise13WayTest.class);
    }

    private static void answers(Checks c, int a, int b, int want) {
        FourTable x = Held.object(1, a);
        x.set(2, b);
        c.due("way of " + a + " to " + b, x.way(1, 2), want);
        c.due("register a", x.get(1), a);
        c.due("register b", x.get(2), b);
    }

    static void ofARegisterToItselfIsTheFirst(Checks c) {
        for (int r = 0; r < 16; r++) {
            c.due("way(" + r + ", " + r + ")", Held.object().way(r, r), 0);
        }
    }

    static void ofATableToItselfIsTheFirst(Checks c) {
        answers(c, 0, 0, 0);
        answers(c, 65535, 65535, 0);
        answers(c, 27030, 27030, 0);
        answers(c, 301, 301, 0);
    }

    static void ofATableToItsInverseMayBeTheSecond(Checks c) {
        answers(c, 0, 65535, 1);
        answers(c, 65535, 0, 1);
        answers(c, 27030, 38505, 1);
        answers(c, 43690, 21845, 1);
    }

    static void theLastWay(Checks c) {
        answers(c, 14295, 301, 767);
        answers(c, 301, 14295, 767);
    }

    static void theLeastOfSeveral(Checks c) {
        answers(c, 1, 32768, 30);
        answers(c, 32768, 1, 30);
        answers(c, 43690, 52428, 192);
        answers(c, 52428, 43690, 192);
        answers(c, 43690, 65280, 576);
        answers(c, 65280, 43690, 288);
    }

    static void thereAndBackMayDiffer(Checks c) {
        // The order 1 2 0 3 (number 8) goes from variable 0 to 1, 1 to 2, 2 to 0; back is 2 0 1 3 (number 12).
        int other = Model.go(301, 256);
        answers(c, 301, other, 256);
        answers(c, other, 301, 384);
    }

    static void minusOneWithoutOne(Checks c) {
        answers(c, 0, 1, -1);
        answers(c, 1, 0, -1);
        answers(c, 65535, 65534, -1);
        answers(c, 27030, 65535, -1);
        answers(c, 3, 6, -1);
    }

    static void betweenTheFirstAndTheLastRegister(Checks c) {
        FourTable x = Held.object(0, 14295);
        x.set(15, 301);
        c.due("way(0, 15)", x.way(0, 15), 767);
        c.due("way(15, 0)", x.way(15, 0), 767);
    }

    static void toAskChangesNothing(Checks c) {
        FourTable x = Held.object();
        x.way(3, 4);
        x.way(15, 0);
        Held.allLeft(c, "way", x);
    }

    static void theAnswerFollowsEveryChangeOfTheRegister(Checks c) {
        Follows.everyChangeOfRegister7(c, x -> {
            x.set(3, 43690);
            return x.way(7, 3);
        });
        Follows.everyChangeOfRegister7(c, x -> {
            x.set(3, 43690);
            return x.way(3, 7);
        });
    }

    static void noSuchRegisterA(Checks c) {
        Refused.noRegister(c, (x, n) -> x.way(n, 1));
    }

    static void noSuchRegisterB(Checks c) {
        Refused.noRegister(c, (x, n) -> x.way(1, n));
    }

    static void neitherOfTheTwoRegisters(Checks c) {
        Refused.noRegister(c, (x, n) -> x.way(n, n));
        Refused.call(c, "way(-1, 16)", x -> x.way(-1, 16));
    }

    static void aWayAfterARefusedOne(Checks c) {
        FourTable x = Held.object(14, 14295);
        x.set(15, 301);
        c.dueThrow("way(14, 16)", IllegalArgumentException.class, () -> x.way(14, 16));
        c.due("way(14, 15)", x.way(14, 15), 767);
    }
}
