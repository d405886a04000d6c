/** Promises 10, 11, 13. */
public final class WaysTest {
    public static void main(String[] args) {
        Checks c = new Checks();
        everyWay(c);
        everyForm(c);
        waysBetween(c);
        overItself(c);
        c.end();
    }

    private static void everyWay(Checks c) {
        for (int k = 0; k < 300; k++) {
            int a = Samples.table(k);
            FourTable x = null;
            for (int w = 0; w < 768; w++) {
                if (w % 100 == 0) {
                    x = new FourTable();
                    x.set(1, a);
                }
                x.go(0, 1, w);
                c.due("promise 10: way " + w + " of " + a, x.get(0), Model.go(a, w));
            }
            c.due("promise 10: go left its register", x.get(1), a);
        }
    }

    private static void everyForm(Checks c) {
        for (int a = 0; a < 65536; a++) {
            FourTable x = new FourTable();
            x.set(1, a);
            int w = x.form(0, 1);
            c.due("promise 11: form of " + a, x.get(0), Model.FORM[a]);
            c.due("promise 11: least way to the form of " + a, w, Model.way(a, Model.FORM[a]));
            c.due("promise 11: form left its register", x.get(1), a);
        }
    }

    private static void waysBetween(Checks c) {
        for (int k = 0; k < 5000; k++) {
            int a = Samples.table(k);
            int b = k % 3 == 0 ? Samples.table(k + 1) : Model.go(a, Math.floorMod(Samples.mixed(k), 768));
            FourTable x = new FourTable();
            x.set(1, a);
            x.set(2, b);
            c.due("promise 13: way of " + a + " to " + b, x.way(1, 2), Model.way(a, b));
            c.due("promise 13: way of " + b + " to " + a, x.way(2, 1), Model.way(b, a));
            c.due("promise 13: way of " + a + " to itself", x.way(1, 1), 0);
            c.due("promise 13: way left register 1", x.get(1), a);
            c.due("promise 13: way left register 2", x.get(2), b);
        }
        FourTable x = new FourTable();
        x.set(1, 1);
        c.due("promise 13: no way", x.way(0, 1), -1);
    }

    private static void overItself(Checks c) {
        FourTable x = new FourTable();
        x.set(1, 4951);
        x.go(1, 1, 501);
        c.due("promise 10: go into itself", x.get(1), Model.go(4951, 501));
        x.set(1, 60000);
        c.due("promise 11: form into itself", x.form(1, 1), Model.way(60000, Model.FORM[60000]));
        c.due("promise 11: form into itself", x.get(1), Model.FORM[60000]);
    }
}
