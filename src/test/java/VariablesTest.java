/** Promises 16, 17. */
public final class VariablesTest {
    public static void main(String[] args) {
        Checks c = new Checks();
        for (int a = 0; a < 65536; a++) {
            FourTable x = new FourTable();
            x.set(9, a);
            for (int i = 0; i < 4; i++) {
                c.due("promise 16: depends of " + a + " on " + i, x.depends(9, i), Model.depends(a, i));
                c.due("promise 17: rises of " + a + " with " + i, x.rises(9, i), Model.rises(a, i));
            }
            c.due("promise 16, 17: register left", x.get(9), a);
        }
        c.end();
    }
}
