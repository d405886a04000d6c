/** Promises 4 to 9. */
public final class OperationsTest {
    public static void main(String[] args) {
        Checks c = new Checks();
        variables(c);
        for (int k = 0; k < 4000; k++) {
            int a = Samples.table(2 * k);
            int b = Samples.table(2 * k + 1);
            ands(c, a, b);
            xors(c, a, b);
            parts(c, a);
            exchanges(c, a);
            compositions(c, k);
        }
        overItself(c);
        c.end();
    }

    private static void variables(Checks c) {
        int[] tables = {43690, 52428, 61680, 65280};
        for (int i = 0; i < 4; i++) {
            FourTable x = new FourTable();
            x.variable(15 - i, i);
            c.due("promise 4: variable " + i, x.get(15 - i), tables[i]);
        }
    }

    private static FourTable with(int a, int b) {
        FourTable x = new FourTable();
        x.set(1, a);
        x.set(2, b);
        return x;
    }

    private static void kept(Checks c, String call, FourTable x, int a, int b) {
        c.due(call + " left register 1", x.get(1), a);
        c.due(call + " left register 2", x.get(2), b);
    }

    private static void ands(Checks c, int a, int b) {
        FourTable x = with(a, b);
        for (int how = 0; how < 8; how++) {
            String call = "promise 5: and of " + a + ", " + b + ", how " + how;
            x.and(0, 1, 2, how);
            c.due(call, x.get(0), Model.and(a, b, how));
            kept(c, call, x, a, b);
        }
    }

    private static void xors(Checks c, int a, int b) {
        FourTable x = with(a, b);
        x.xor(0, 1, 2);
        c.due("promise 6: xor of " + a + ", " + b, x.get(0), Model.xor(a, b));
        kept(c, "promise 6: xor", x, a, b);
    }

    private static void parts(Checks c, int a) {
        FourTable x = with(a, 0);
        for (int i = 0; i < 4; i++) {
            x.part(0, 1, i, false);
            c.due("promise 7: part of " + a + " where " + i + " is 0", x.get(0), Model.part(a, i, false));
            x.part(0, 1, i, true);
            c.due("promise 7: part of " + a + " where " + i + " is 1", x.get(0), Model.part(a, i, true));
        }
        kept(c, "promise 7: part", x, a, 0);
    }

    private static void exchanges(Checks c, int a) {
        FourTable x = with(a, 0);
        for (int i = 0; i < 4; i++) {
            for (int j = 0; j < 4; j++) {
                x.exchange(0, 1, i, j);
                c.due("promise 8: exchange of " + i + ", " + j + " in " + a, x.get(0), Model.exchange(a, i, j));
            }
        }
        kept(c, "promise 8: exchange", x, a, 0);
    }

    private static void compositions(Checks c, int k) {
        FourTable x = new FourTable();
        int[] t = new int[5];
        for (int n = 0; n < 5; n++) {
            t[n] = Samples.table(5 * k + n);
            x.set(n + 1, t[n]);
        }
        x.compose(0, 1, 2, 3, 4, 5);
        c.due("promise 9: compose, sample " + k, x.get(0), Model.compose(t[0], t[1], t[2], t[3], t[4]));
        for (int n = 0; n < 5; n++) {
            c.due("promise 9: compose left register " + (n + 1), x.get(n + 1), t[n]);
        }
    }

    /** The result's register may be one of those that are read. */
    private static void overItself(Checks c) {
        FourTable x = with(27030, 4951);
        x.and(1, 1, 2, 3);
        c.due("promise 5: and into its first", x.get(1), Model.and(27030, 4951, 3));
        x = with(27030, 4951);
        x.xor(2, 1, 2);
        c.due("promise 6: xor into its second", x.get(2), Model.xor(27030, 4951));
        x.xor(2, 2, 2);
        c.due("promise 6: xor with itself", x.get(2), 0);
        x = with(4951, 0);
        x.part(1, 1, 2, true);
        c.due("promise 7: part into itself", x.get(1), Model.part(4951, 2, true));
        x = with(4951, 0);
        x.exchange(1, 1, 3, 1);
        c.due("promise 8: exchange into itself", x.get(1), Model.exchange(4951, 3, 1));
        x = with(4951, 1234);
        x.compose(1, 1, 2, 1, 2, 1);
        c.due("promise 9: compose into itself", x.get(1), Model.compose(4951, 1234, 4951, 1234, 4951));
    }
}
