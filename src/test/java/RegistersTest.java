/** Promises 1, 2, 3. */
public final class RegistersTest {
    public static void main(String[] args) {
        Checks c = new Checks();
        aNewObject(c);
        everyTable(c);
        registersAreApart(c);
        c.end();
    }

    private static void aNewObject(Checks c) {
        FourTable first = new FourTable();
        first.set(3, 7);
        FourTable x = new FourTable();
        for (int r = 0; r < 16; r++) {
            c.due("promise 1: get(" + r + ") of a new object", x.get(r), 0);
        }
        c.due("promise 1: get(3) of an older object", first.get(3), 7);
    }

    private static void everyTable(Checks c) {
        for (int t = 0; t < 65536; t++) {
            FourTable x = new FourTable();
            int r = t % 16;
            x.set(r, t);
            c.due("promise 2, 3: get(" + r + ") after set to " + t, x.get(r), t);
            c.due("promise 2, 3: get of another register", x.get((r + 1) % 16), 0);
        }
    }

    private static void registersAreApart(Checks c) {
        FourTable x = new FourTable();
        for (int r = 0; r < 16; r++) {
            x.set(r, 4000 * r + 5);
        }
        for (int r = 0; r < 16; r++) {
            c.due("promise 2: get(" + r + ")", x.get(r), 4000 * r + 5);
        }
    }
}
