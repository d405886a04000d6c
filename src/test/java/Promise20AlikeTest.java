/** "How many registers hold tables of one class with a." */
public final class Promise20AlikeTest {
    public static void main(String[] args) throws ReflectiveOperationException {
        Sentences.run(Promise20AlikeTest.class);
    }

    /** All registers hold the last form but those named, which hold what is told. */
    private static FourTable with(int[] named, int table) {
        FourTable x = new FourTable();
        for (int r = 0; r < 16; r++) {
            x.set(r, 27030);
        }
        for (int r : named) {
            x.set(r, table);
        }
        return x;
    }

    static void allSixteenInANewObject(Checks c) {
        for (int a = 0; a < 16; a++) {
            c.due("alike(" + a + ")", new FourTable().alike(a), 16);
        }
    }

    static void itsOwnRegisterAlone(Checks c) {
        for (int a = 0; a < 16; a++) {
            c.due("alike(" + a + ")", with(new int[] {a}, 1).alike(a), 1);
        }
    }

    static void allButOne(Checks c) {
        c.due("alike(0), register 15 is another", with(new int[] {15}, 1).alike(0), 15);
        c.due("alike(15), register 0 is another", with(new int[] {0}, 1).alike(15), 15);
    }

    static void theFirstAndTheLastRegisterAlone(Checks c) {
        c.due("alike(0)", with(new int[] {0, 15}, 1).alike(0), 2);
        c.due("alike(15)", with(new int[] {0, 15}, 1).alike(15), 2);
    }

    static void theTableZeroAndTheTableOfAllOnesAreOfOneClass(Checks c) {
        FourTable x = with(new int[] {3}, 0);
        x.set(9, 65535);
        c.due("alike(3)", x.alike(3), 2);
        c.due("alike(9)", x.alike(9), 2);
        c.due("alike(0)", x.alike(0), 14);
    }

    static void tablesThatDifferButAreOfOneClass(Checks c) {
        FourTable x = with(new int[] {3}, 14295);
        x.set(9, 301);
        x.set(10, 300);
        c.due("alike(3)", x.alike(3), 2);
        c.due("alike(9)", x.alike(9), 2);
        c.due("alike(10)", x.alike(10), 1);
    }

    static void inversesByVariablesAndByTheResult(Checks c) {
        FourTable x = with(new int[] {1}, 1);
        x.set(2, 32768);
        x.set(3, 65534);
        x.set(4, 32767);
        x.set(5, 0);
        c.due("alike(1)", x.alike(1), 4);
        c.due("alike(4)", x.alike(4), 4);
        c.due("alike(5)", x.alike(5), 1);
    }

    static void toAskChangesNothing(Checks c) {
        FourTable x = Held.object();
        x.alike(0);
        x.alike(15);
        Held.allLeft(c, "alike", x);
    }

    static void theAnswerFollowsEveryChangeOfTheRegister(Checks c) {
        Follows.everyChangeOfRegister7(c, x -> {
            x.set(3, 43690);
            x.set(4, 43690);
            return x.alike(7);
        });
    }

    static void theAnswerFollowsEveryChangeOfAnotherRegister(Checks c) {
        FourTable x = new FourTable();
        c.due("alike(0)", x.alike(0), 16);
        x.set(1, 1);
        c.due("alike(0) after set", x.alike(0), 15);
        x.variable(2, 3);
        c.due("alike(0) after variable", x.alike(0), 14);
        x.and(3, 1, 2, 2);
        c.due("alike(0) after and", x.alike(0), 13);
        x.xor(4, 1, 2);
        c.due("alike(0) after xor", x.alike(0), 12);
        x.part(5, 1, 0, false);
        c.due("alike(0) after part", x.alike(0), 11);
        x.exchange(6, 2, 0, 3);
        c.due("alike(0) after exchange", x.alike(0), 10);
        x.compose(7, 2, 0, 0, 0, 1);
        c.due("alike(0) after compose", x.alike(0), 9);
        x.go(8, 1, 30);
        c.due("alike(0) after go", x.alike(0), 8);
        x.form(9, 2);
        c.due("alike(0) after form", x.alike(0), 7);
        x.form(1, 0);
        c.due("alike(0) after form to its own class", x.alike(0), 8);
    }

    static void noSuchRegister(Checks c) {
        Refused.noRegister(c, (x, n) -> x.alike(n));
    }

    static void anAlikeAfterARefusedOne(Checks c) {
        FourTable x = new FourTable();
        c.dueThrow("alike(16)", IllegalArgumentException.class, () -> x.alike(16));
        c.due("alike(15)", x.alike(15), 16);
        c.dueThrow("alike(-1)", IllegalArgumentException.class, () -> x.alike(-1));
        c.due("alike(0)", x.alike(0), 16);
    }
}
