/** Runs of 512 mixed calls, wrong ones among them, beside the model: promises 1 to 20 together. */
public final class LongRunTest {
    private static final int RUNS = 200;
    private static final int CALLS = 512;

    private final Checks c;
    private final FourTable x = new FourTable();
    private final int[] held = new int[16];
    private final int run;
    private int turn = 0;

    private LongRunTest(Checks c, int run) {
        this.c = c;
        this.run = run;
    }

    public static void main(String[] args) {
        Checks c = new Checks();
        for (int run = 0; run < RUNS; run++) {
            LongRunTest test = new LongRunTest(c, run);
            for (int k = 0; k < CALLS - 16; k++) {
                test.step(k);
            }
            for (int r = 0; r < 16; r++) {
                c.due("run " + run + ": get(" + r + ") at the end", test.x.get(r), test.held[r]);
            }
        }
        c.end();
    }

    private int pick(int bound) {
        turn++;
        return Math.floorMod(Samples.mixed(100000 * run + turn), bound);
    }

    private void step(int k) {
        int r = pick(16);
        int a = pick(16);
        int b = pick(16);
        int i = pick(4);
        int j = pick(4);
        String at = "run " + run + ", call " + k + ": ";
        switch (pick(20)) {
            case 0 -> { held[r] = Samples.table(pick(1000)); x.set(r, held[r]); }
            case 1 -> c.due(at + "get", x.get(a), held[a]);
            case 2 -> { x.variable(r, i); held[r] = Model.variable(i); }
            case 3 -> { int how = pick(8); x.and(r, a, b, how); held[r] = Model.and(held[a], held[b], how); }
            case 4 -> { x.xor(r, a, b); held[r] = Model.xor(held[a], held[b]); }
            case 5 -> { x.part(r, a, i, j > 1); held[r] = Model.part(held[a], i, j > 1); }
            case 6 -> { x.exchange(r, a, i, j); held[r] = Model.exchange(held[a], i, j); }
            case 7 -> {
                int d = pick(16);
                int e = pick(16);
                x.compose(r, a, b, r, d, e);
                held[r] = Model.compose(held[a], held[b], held[r], held[d], held[e]);
            }
            case 8 -> { int w = pick(768); x.go(r, a, w); held[r] = Model.go(held[a], w); }
            case 9 -> {
                int form = Model.FORM[held[a]];
                c.due(at + "form", x.form(r, a), Model.way(held[a], form));
                held[r] = form;
            }
            case 10 -> c.due(at + "size", x.size(a), Model.CLASS_SIZE[Model.FORM[held[a]]]);
            case 11 -> c.due(at + "way", x.way(a, b), Model.way(held[a], held[b]));
            case 12 -> c.due(at + "number", x.number(a), Model.FORMS.indexOf(Model.FORM[held[a]]));
            case 13 -> { int n = pick(222); c.due(at + "classForm", x.classForm(n), Model.FORMS.get(n)); }
            case 14 -> c.due(at + "depends", x.depends(a, i), Model.depends(held[a], i));
            case 15 -> c.due(at + "rises", x.rises(a, i), Model.rises(held[a], i));
            case 16 -> c.due(at + "primes", x.primes(a), Model.primes(held[a]));
            case 17 -> c.due(at + "cover", x.cover(a), Model.COVER[held[a]]);
            case 18 -> c.due(at + "alike", x.alike(a), alike(a));
            default -> c.dueThrow(at + "form(16)", IllegalArgumentException.class, () -> x.form(r, 16 + a));
        }
    }

    private int alike(int a) {
        int count = 0;
        for (int table : held) {
            count += Model.FORM[table] == Model.FORM[held[a]] ? 1 : 0;
        }
        return count;
    }
}
