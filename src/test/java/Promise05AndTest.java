/**
 * "r becomes a AND b: with bit 0 of how a inverted, with bit 1 b, with bit 2 the result. Throws .. also when how is
 * not 0 .. 7."
 */
public final class Promise05AndTest {
    private static final int A = 0b0000111100110101;
    private static final int B = 0b0101010100110011;

    public static void main(String[] args) throws ReflectiveOperationException {
        Sentences.run(Promise05AndTest.class);
    }

    private static void answers(Checks c, int a, int b, int how, int want) {
        FourTable x = new FourTable();
        x.set(1, a);
        x.set(2, b);
        x.and(0, 1, 2, how);
        c.due("and of " + a + ", " + b + ", how " + how, x.get(0), want);
        c.due("register a", x.get(1), a);
        c.due("register b", x.get(2), b);
    }

    static void theLeastHowInvertsNothing(Checks c) {
        answers(c, A, B, 0, 0b0000010100110001);
    }

    static void bitZeroOfHowInvertsA(Checks c) {
        answers(c, A, B, 1, 0b0101000000000010);
    }

    static void bitOneOfHowInvertsB(Checks c) {
        answers(c, A, B, 2, 0b0000101000000100);
    }

    static void bitTwoOfHowInvertsTheResult(Checks c) {
        answers(c, A, B, 4, 0b1111101011001110);
    }

    static void twoBitsOfHowAtOnce(Checks c) {
        answers(c, A, B, 3, 0b1010000011001000);
        answers(c, A, B, 5, 0b1010111111111101);
        answers(c, A, B, 6, 0b1111010111111011);
    }

    static void theGreatestHowInvertsAll(Checks c) {
        answers(c, A, B, 7, 0b0101111100110111);
    }

    static void theTablesZeroAndAllOnesWithEveryHow(Checks c) {
        int[][] rows = {
            {0, 0, 0, 0, 0, 65535, 65535, 65535, 65535, 0},
            {0, 65535, 0, 65535, 0, 0, 65535, 0, 65535, 65535},
            {65535, 0, 0, 0, 65535, 0, 65535, 65535, 0, 65535},
            {65535, 65535, 65535, 0, 0, 0, 0, 65535, 65535, 65535}
        };
        for (int[] row : rows) {
            for (int how = 0; how < 8; how++) {
                answers(c, row[0], row[1], how, row[2 + how]);
            }
        }
    }

    static void intoTheFirstAndTheLastRegister(Checks c) {
        FourTable x = Held.object();
        x.and(0, 15, 14, 0);
        Held.onlyChanged(c, "and(0, 15, 14, 0)", x, 0, Held.table(15) & Held.table(14));
        x = Held.object();
        x.and(15, 0, 1, 0);
        Held.onlyChanged(c, "and(15, 0, 1, 0)", x, 15, Held.table(0) & Held.table(1));
    }

    static void intoTheRegisterOfA(Checks c) {
        FourTable x = Held.object(3, A);
        x.and(3, 3, 4, 1);
        Held.onlyChanged(c, "and(3, 3, 4, 1)", x, 3, ~A & Held.table(4));
    }

    static void intoTheRegisterOfB(Checks c) {
        FourTable x = Held.object(3, B);
        x.and(3, 4, 3, 2);
        Held.onlyChanged(c, "and(3, 4, 3, 2)", x, 3, Held.table(4) & ~B);
    }

    static void oneRegisterForAll(Checks c) {
        int[] due = {A, 0, 0, 65535 ^ A, 65535 ^ A, 65535, 65535, A};
        for (int how = 0; how < 8; how++) {
            FourTable x = Held.object(3, A);
            x.and(3, 3, 3, how);
            Held.onlyChanged(c, "and(3, 3, 3, " + how + ")", x, 3, due[how]);
        }
    }

    static void theResultFollowsEveryChangeOfARegisterThatIsRead(Checks c) {
        Follows.everyChangeOfRegister7(c, x -> {
            x.and(0, 7, 15, 0);
            return x.get(0);
        });
        Follows.everyChangeOfRegister7(c, x -> {
            x.and(0, 15, 7, 7);
            return x.get(0);
        });
    }

    static void noSuchRegisterR(Checks c) {
        Refused.noRegister(c, (x, n) -> x.and(n, 1, 2, 0));
    }

    static void noSuchRegisterA(Checks c) {
        Refused.noRegister(c, (x, n) -> x.and(3, n, 2, 0));
    }

    static void noSuchRegisterB(Checks c) {
        Refused.noRegister(c, (x, n) -> x.and(3, 1, n, 0));
    }

    static void howIsNotZeroToSeven(Checks c) {
        Refused.noHow(c, (x, n) -> x.and(3, 1, 2, n));
        Refused.noHow(c, (x, n) -> x.and(1, 1, 1, n));
    }

    static void severalThatThereAreNot(Checks c) {
        Refused.call(c, "and(16, -1, 16, 8)", x -> x.and(16, -1, 16, 8));
        Refused.call(c, "and(3, 1, 16, -1)", x -> x.and(3, 1, 16, -1));
    }

    static void anAndAfterARefusedOne(Checks c) {
        FourTable x = Held.object();
        c.dueThrow("and(3, 1, 2, 8)", IllegalArgumentException.class, () -> x.and(3, 1, 2, 8));
        x.and(3, 1, 2, 7);
        Held.onlyChanged(c, "and(3, 1, 2, 7)", x, 3, Held.table(1) | Held.table(2));
    }
}
