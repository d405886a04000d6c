import java.util.NoSuchElementException;
import java.util.function.Consumer;

/** Wrong inputs of promises 2 to 20: the exception that is due, and nothing changed. */
public final class RefusalsTest {
    private static final int[] NO_REGISTERS = {-1, 16, 17, Integer.MIN_VALUE, Integer.MAX_VALUE};
    private static final int[] NO_VARIABLES = {-1, 4, 5, 15, Integer.MIN_VALUE, Integer.MAX_VALUE};
    private static final int[] NO_TABLES = {-1, 65536, 65537, Integer.MIN_VALUE, Integer.MAX_VALUE};
    private static final int[] NO_HOWS = {-1, 8, 9, Integer.MIN_VALUE, Integer.MAX_VALUE};
    private static final int[] NO_WAYS = {-1, 768, 769, Integer.MIN_VALUE, Integer.MAX_VALUE};
    private static final int[] NO_CLASSES = {-1, 222, 223, Integer.MIN_VALUE, Integer.MAX_VALUE};

    private static final Checks CHECKS = new Checks();

    public static void main(String[] args) {
        for (int n : NO_REGISTERS) {
            noRegister(n);
            noRegisterRead(n);
        }
        for (int n : NO_VARIABLES) {
            noVariable(n);
        }
        for (int n : NO_TABLES) {
            refused("promise 2: set(3, " + n + ")", x -> x.set(3, n));
            refused("promise 2: set(16, " + n + ")", x -> x.set(16, n));
        }
        for (int n : NO_HOWS) {
            refused("promise 5: and, how " + n, x -> x.and(3, 1, 2, n));
        }
        for (int n : NO_WAYS) {
            refused("promise 10: go, way " + n, x -> x.go(3, 1, n));
        }
        for (int n : NO_CLASSES) {
            refused("promise 15: classForm(" + n + ")", NoSuchElementException.class, x -> x.classForm(n));
        }
        CHECKS.end();
    }

    private static void noRegister(int n) {
        refused("promise 2: set(" + n + ", 5)", x -> x.set(n, 5));
        refused("promise 4: variable(" + n + ", 1)", x -> x.variable(n, 1));
        refused("promise 5: and(" + n + ", 1, 2, 0)", x -> x.and(n, 1, 2, 0));
        refused("promise 5: and(3, " + n + ", 2, 0)", x -> x.and(3, n, 2, 0));
        refused("promise 5: and(3, 1, " + n + ", 0)", x -> x.and(3, 1, n, 0));
        refused("promise 6: xor(" + n + ", 1, 2)", x -> x.xor(n, 1, 2));
        refused("promise 6: xor(3, " + n + ", 2)", x -> x.xor(3, n, 2));
        refused("promise 6: xor(3, 1, " + n + ")", x -> x.xor(3, 1, n));
        refused("promise 7: part(" + n + ", 1, 0, true)", x -> x.part(n, 1, 0, true));
        refused("promise 7: part(3, " + n + ", 0, false)", x -> x.part(3, n, 0, false));
        refused("promise 8: exchange(" + n + ", 1, 0, 1)", x -> x.exchange(n, 1, 0, 1));
        refused("promise 8: exchange(3, " + n + ", 0, 1)", x -> x.exchange(3, n, 0, 1));
        refused("promise 9: compose(" + n + ", 1, 2, 3, 4, 5)", x -> x.compose(n, 1, 2, 3, 4, 5));
        refused("promise 9: compose(0, " + n + ", 2, 3, 4, 5)", x -> x.compose(0, n, 2, 3, 4, 5));
        refused("promise 9: compose(0, 1, " + n + ", 3, 4, 5)", x -> x.compose(0, 1, n, 3, 4, 5));
        refused("promise 9: compose(0, 1, 2, " + n + ", 4, 5)", x -> x.compose(0, 1, 2, n, 4, 5));
        refused("promise 9: compose(0, 1, 2, 3, " + n + ", 5)", x -> x.compose(0, 1, 2, 3, n, 5));
        refused("promise 9: compose(0, 1, 2, 3, 4, " + n + ")", x -> x.compose(0, 1, 2, 3, 4, n));
        refused("promise 10: go(" + n + ", 1, 5)", x -> x.go(n, 1, 5));
        refused("promise 10: go(3, " + n + ", 5)", x -> x.go(3, n, 5));
        refused("promise 11: form(" + n + ", 1)", x -> x.form(n, 1));
        refused("promise 11: form(3, " + n + ")", x -> x.form(3, n));
    }

    private static void noRegisterRead(int n) {
        refused("promise 3: get(" + n + ")", x -> x.get(n));
        refused("promise 12: size(" + n + ")", x -> x.size(n));
        refused("promise 13: way(" + n + ", 1)", x -> x.way(n, 1));
        refused("promise 13: way(1, " + n + ")", x -> x.way(1, n));
        refused("promise 14: number(" + n + ")", x -> x.number(n));
        refused("promise 16: depends(" + n + ", 1)", x -> x.depends(n, 1));
        refused("promise 17: rises(" + n + ", 1)", x -> x.rises(n, 1));
        refused("promise 18: primes(" + n + ")", x -> x.primes(n));
        refused("promise 19: cover(" + n + ")", x -> x.cover(n));
        refused("promise 20: alike(" + n + ")", x -> x.alike(n));
    }

    private static void noVariable(int n) {
        refused("promise 4: variable(3, " + n + ")", x -> x.variable(3, n));
        refused("promise 7: part(3, 1, " + n + ", true)", x -> x.part(3, 1, n, true));
        refused("promise 7: part(3, 1, " + n + ", false)", x -> x.part(3, 1, n, false));
        refused("promise 8: exchange(3, 1, " + n + ", 0)", x -> x.exchange(3, 1, n, 0));
        refused("promise 8: exchange(3, 1, 0, " + n + ")", x -> x.exchange(3, 1, 0, n));
        refused("promise 8: exchange(3, 1, " + n + ", " + n + ")", x -> x.exchange(3, 1, n, n));
        refused("promise 16: depends(1, " + n + ")", x -> x.depends(1, n));
        refused("promise 17: rises(1, " + n + ")", x -> x.rises(1, n));
    }

    private static void refused(String call, Consumer<FourTable> run) {
        refused(call, IllegalArgumentException.class, run);
    }

    private static void refused(String call, Class<? extends RuntimeException> want, Consumer<FourTable> run) {
        FourTable x = new FourTable();
        for (int r = 0; r < 16; r++) {
            x.set(r, held(r));
        }
        CHECKS.dueThrow(call, want, () -> run.accept(x));
        for (int r = 0; r < 16; r++) {
            CHECKS.due(call + " left register " + r, x.get(r), held(r));
        }
    }

    private static int held(int r) {
        return 12345 + 3001 * r;
    }
}
