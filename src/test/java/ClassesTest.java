/** Promises 12, 14, 15, 20. */
public final class ClassesTest {
    public static void main(String[] args) {
        Checks c = new Checks();
        everyTable(c);
        everyClass(c);
        alikeRegisters(c);
        c.end();
    }

    private static void everyTable(Checks c) {
        for (int a = 0; a < 65536; a++) {
            FourTable x = new FourTable();
            x.set(1, a);
            c.due("promise 12: size of " + a, x.size(1), Model.CLASS_SIZE[Model.FORM[a]]);
            c.due("promise 14: number of " + a, x.number(1), Model.FORMS.indexOf(Model.FORM[a]));
            c.due("promise 12, 14: register left", x.get(1), a);
        }
    }

    private static void everyClass(Checks c) {
        c.due("classes in all", Model.FORMS.size(), 222);
        FourTable x = new FourTable();
        for (int n = 0; n < 222; n++) {
            c.due("promise 15: classForm(" + n + ")", x.classForm(n), Model.FORMS.get(n));
        }
    }

    private static void alikeRegisters(Checks c) {
        c.due("promise 20: alike of a new object", new FourTable().alike(5), 16);
        for (int k = 0; k < 1000; k++) {
            FourTable x = new FourTable();
            int[] held = new int[16];
            for (int r = 0; r < 16; r++) {
                int pick = Math.floorMod(Samples.mixed(16 * k + r), 768);
                held[r] = Model.go(Samples.table(k + pick % 4), pick);
                x.set(r, held[r]);
            }
            for (int a = 0; a < 16; a++) {
                int want = 0;
                for (int r = 0; r < 16; r++) {
                    want += Model.FORM[held[r]] == Model.FORM[held[a]] ? 1 : 0;
                }
                c.due("promise 20: alike(" + a + "), sample " + k, x.alike(a), want);
            }
            for (int r = 0; r < 16; r++) {
                c.due("promise 20: alike left register " + r, x.get(r), held[r]);
            }
        }
    }
}
