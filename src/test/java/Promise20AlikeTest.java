/** "How many registers hold tables of one class with a." */
public final class Promise20AlikeTest {
    public static void main(String[] args) throws ReflectiveOperationException {
        Sentences.run(Promise20AlikeTest.class);
    }

    /** All registers hold the last form but those named, which hold what is told. */
    private static FourTable with(int[] named, int table) {
        FourTable x = new FourTable();
        for (int r = 0; r < 16; r++) {
            x.set(r, 27030);
        }
        for (int r : named) {
            x.set(r, table);
        }
        return x;
    }

    static void allSixteenInANewObject(Checks c) {
        for (int a = 0; a < 16; a++) {
            c.due("alike(" + a + ")", new FourTable().alike(a), 16);
        }
    }

    static void itsOwnRegisterAlone(Checks c) {
        for (int a = 0; a < 16; a++) {
            c.due("alike(" + a + ")", with(new int[] {a}, 1).alike(a), 1);
        }
    }

    static void allButOne(Checks c) {
        c.due("alike(0), register 15 is another", with(new int[] {15}, 1).alike(0), 15);
        c.due("alike(15), register 0 is another", with(new int[] {0}, 1).alike(15), 15);
    }

    static void theFirstAndTheLastRegisterAlone(Checks c) {
        c.due("alike(0)", with(new int[] {0, 15}, 1).alike(0), 2);
        c.due("alike(15)", with(new int[] {0, 15}, 1).alike(15), 2);
    }

    static void theTableZeroAndTheTableOfAllOnesAreOfOneClass(Checks c) {
        FourTable x = with(new int[] {3}, 0);
        x.set(9, 65535);
        c.due("alike(3)", x.alike(3), 2);
        c.due("alike(9)", x.alike(9), 2);
        c.due("alike(0)", x.alike(0), 14);
    }

    static void tablesThatDifferButAreOfOneClass(Checks c) {
        FourTable x = with(new int[] {3}, 14295);
        x.set(9, 301);
        x.set(10, 300);
        c.due("alike(3)", x.alike(3), 2);
        c.due("alike(9)", x.alike(9), 2);
        c.due("alike(10)", x.alike(10), 1);
    }

    static void inversesByVariablesAndByTheResult(Checks c) {
        FourTable x = with(new int[] {1}, 1);
        x.set(2, 32768);
        x.set(3, 65534);
        x.set(4, 32767);
        x.set(5, 0);
        c.due("alike(1)", x.alike(1), 4);
        c.due("alike(4)", x.alike(4), 4);
        c.due("alike(5)", x.alike(5), 1);
    }

    static void toAskChangesNothing(Checks c) {
        FourTable x = Held.object();
        x.alike(0);
        x.alike(15);
        Held.allLeft(c, "alike", x);
    }

    static void noSuchRegister(Checks c) {
        Refused.noRegister(c, (x, n) -> x.alike(n));
    }

    static void anAlikeAfterARefusedOne(Checks c) {
        FourTable x = new FourTable();
        c.dueThrow("alike(16)", IllegalArgumentException.class, () -> x.alike(16));
        c.due("alike(15)", x.alike(15), 16);
        c.dueThrow("alike(-1)", IllegalArgumentException.class, () -> x.alike(-1));
        c.due("alike(0)", x.alike(0), 16);
    }
}
