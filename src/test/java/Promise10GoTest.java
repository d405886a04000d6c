/** "r becomes what a way makes of a. Throws .. also when there is no such way." */
public final class Promise10GoTest {
    private static final int[] VARIABLES = {43690, 52428, 61680, 65280};

    public static void main(String[] args) throws ReflectiveOperationException {
        Sentences.run(Promise10GoTest.class);
    }

    private static void answers(Checks c, int a, int way, int want) {
        FourTable x = Held.object(1, a);
        x.go(0, 1, way);
        c.due("way " + way + " of " + a, x.get(0), want);
        c.due("register a", x.get(1), a);
    }

    static void theFirstWayLeavesEveryTable(Checks c) {
        for (int k = 0; k < 2000; k++) {
            answers(c, Samples.table(k), 0, Samples.table(k));
        }
    }

    static void theSecondWayInvertsTheResult(Checks c) {
        answers(c, 0x37D7, 1, 0xC828);
        answers(c, 0, 1, 65535);
        answers(c, 65535, 1, 0);
    }

    static void theThirdWayInvertsTheFirstVariable(Checks c) {
        answers(c, 1, 2, 2);
        answers(c, 32768, 2, 16384);
    }

    static void bitThreeOfTheMaskInvertsTheLastVariable(Checks c) {
        answers(c, 1, 16, 256);
        answers(c, 32768, 16, 128);
    }

    static void theLastMaskInvertsAllVariables(Checks c) {
        answers(c, 1, 30, 32768);
        answers(c, 32768, 30, 1);
        answers(c, 0x0002, 30, 0x4000);
    }

    static void theLastWayOfTheFirstOrder(Checks c) {
        answers(c, 1, 31, 32767);
    }

    static void theFirstWayOfTheSecondOrder(Checks c) {
        answers(c, 43690, 32, 43690);
        answers(c, 52428, 32, 52428);
        answers(c, 61680, 32, 65280);
        answers(c, 65280, 32, 61680);
    }

    static void theFirstWayOfTheLastOrder(Checks c) {
        answers(c, 43690, 736, 65280);
        answers(c, 52428, 736, 61680);
        answers(c, 61680, 736, 52428);
        answers(c, 65280, 736, 43690);
    }

    static void theLastWayOfTheLastOrderButOne(Checks c) {
        // Order 22 is 3 2 0 1; all variables are inverted, and so is the result: they stand as they are.
        answers(c, 43690, 735, 65280);
        answers(c, 52428, 735, 61680);
        answers(c, 61680, 735, 43690);
        answers(c, 65280, 735, 52428);
        answers(c, 1, 735, 32767);
    }

    static void theLastWay(Checks c) {
        answers(c, 43690, 767, 65280);
        answers(c, 65280, 767, 43690);
        answers(c, 1, 767, 32767);
        answers(c, 0x0002, 767, 0xFF7F);
        answers(c, 14295, 767, 301);
        answers(c, 301, 767, 14295);
    }

    static void variableIIsVariablePlaceIOfTheOrder(Checks c) {
        // Order 3 is 0 2 3 1, which is not its own reverse: 1 is read from 2, 2 from 3, 3 from 1.
        answers(c, 43690, 96, 43690);
        answers(c, 52428, 96, 61680);
        answers(c, 61680, 96, 65280);
        answers(c, 65280, 96, 52428);
    }

    static void bitIOfTheMaskIsForVariableIOfTheFirstTable(Checks c) {
        // Order 3 with mask 2: variable 1 is variable 2 of x, inverted; the others are not inverted.
        answers(c, 52428, 100, 3855);
        answers(c, 61680, 100, 65280);
        answers(c, 65280, 100, 52428);
        answers(c, 43690, 100, 43690);
    }

    static void everyOrderPlaceByPlace(Checks c) {
        int[] rows = {
            123, 132, 213, 231, 312, 321, 1023, 1032, 1203, 1230, 1302, 1320,
            2013, 2031, 2103, 2130, 2301, 2310, 3012, 3021, 3102, 3120, 3201, 3210
        };
        for (int p = 0; p < 24; p++) {
            int[] places = {rows[p] / 1000, rows[p] / 100 % 10, rows[p] / 10 % 10, rows[p] % 10};
            for (int i = 0; i < 4; i++) {
                answers(c, VARIABLES[i], 32 * p, VARIABLES[places[i]]);
            }
        }
    }

    static void theTablesZeroAndAllOnesByEveryWay(Checks c) {
        for (int w = 0; w < 768; w++) {
            answers(c, 0, w, w % 2 == 0 ? 0 : 65535);
            answers(c, 65535, w, w % 2 == 0 ? 65535 : 0);
        }
    }

    static void intoTheFirstAndTheLastRegister(Checks c) {
        FourTable x = Held.object(15, 1);
        x.go(0, 15, 30);
        c.due("go(0, 15, 30)", x.get(0), 32768);
        x = Held.object(0, 1);
        x.go(15, 0, 31);
        c.due("go(15, 0, 31)", x.get(15), 32767);
    }

    static void intoTheRegisterThatIsRead(Checks c) {
        FourTable x = Held.object(3, 14295);
        x.go(3, 3, 767);
        Held.onlyChanged(c, "go(3, 3, 767)", x, 3, 301);
    }

    static void theResultFollowsEveryChangeOfARegisterThatIsRead(Checks c) {
        Follows.everyChangeOfRegister7(c, x -> {
            x.go(0, 7, 700);
            return x.get(0);
        });
    }

    static void noSuchRegisterR(Checks c) {
        Refused.noRegister(c, (x, n) -> x.go(n, 1, 0));
        Refused.noRegister(c, (x, n) -> x.go(n, 1, 767));
    }

    static void noSuchRegisterA(Checks c) {
        Refused.noRegister(c, (x, n) -> x.go(3, n, 0));
        Refused.noRegister(c, (x, n) -> x.go(3, n, 767));
    }

    static void noSuchWay(Checks c) {
        Refused.noWay(c, (x, n) -> x.go(3, 1, n));
        Refused.noWay(c, (x, n) -> x.go(1, 1, n));
    }

    static void severalThatThereAreNot(Checks c) {
        Refused.call(c, "go(16, -1, 768)", x -> x.go(16, -1, 768));
        Refused.call(c, "go(3, 16, -1)", x -> x.go(3, 16, -1));
    }

    static void aGoAfterARefusedOne(Checks c) {
        FourTable x = Held.object(1, 14295);
        c.dueThrow("go(3, 1, 768)", IllegalArgumentException.class, () -> x.go(3, 1, 768));
        x.go(3, 1, 767);
        c.due("go(3, 1, 767)", x.get(3), 301);
    }
}
