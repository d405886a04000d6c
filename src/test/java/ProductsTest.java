/** Promises 18, 19. */
public final class ProductsTest {
    public static void main(String[] args) {
        Checks c = new Checks();
        everyTable(c);
        writtenOnes(c);
        c.end();
    }

    private static void everyTable(Checks c) {
        for (int a = 0; a < 65536; a++) {
            FourTable x = new FourTable();
            x.set(4, a);
            c.due("promise 18: primes of " + a, x.primes(4), Model.primes(a));
            c.due("promise 19: cover of " + a, x.cover(4), Model.COVER[a]);
            c.due("promise 18, 19: register left", x.get(4), a);
        }
    }

    /** One object again and again, so that nothing of an earlier call shows in a later one. */
    private static void writtenOnes(Checks c) {
        FourTable x = new FourTable();
        int[][] rows = {
            {0, 0, 0}, {65535, 1, 1}, {27030, 8, 8}, {38505, 8, 8}, {32768, 1, 1}, {43690, 1, 1}, {0, 0, 0}
        };
        for (int[] row : rows) {
            x.set(0, row[0]);
            c.due("promise 18: primes of " + row[0], x.primes(0), row[1]);
            c.due("promise 19: cover of " + row[0], x.cover(0), row[2]);
        }
    }
}
