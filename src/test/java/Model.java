import java.util.ArrayList;
import java.util.Arrays;
import java.util.List;

/** The document's terms, word by word and place by place; it shares no shortcut with the class under test. */
final class Model {
    static final int[][] ORDERS = orders();
    private static final int[] PRODUCT = products();
    private static final boolean[][] LEAVES_OUT = leavesOut();

    /** The form of each table, and all forms in their order. */
    static final int[] FORM = new int[65536];
    static final List<Integer> FORMS = new ArrayList<>();
    /** How many tables have the same form, for each table that is a form. */
    static final int[] CLASS_SIZE = new int[65536];
    /** The least number of products whose OR is the table. */
    static final int[] COVER = covers();

    static {
        Arrays.fill(FORM, -1);
        for (int t = 0; t < 65536; t++) {
            if (FORM[t] < 0) {
                FORMS.add(t);
                for (int w = 0; w < 768; w++) {
                    FORM[go(t, w)] = t;
                }
            }
        }
        for (int t = 0; t < 65536; t++) {
            CLASS_SIZE[FORM[t]]++;
        }
    }

    private Model() {
    }

    private static int[][] orders() {
        List<int[]> rows = new ArrayList<>();
        for (int k = 0; k < 256; k++) {
            int[] row = {k >> 6, k >> 4 & 3, k >> 2 & 3, k & 3};
            if (Arrays.stream(row).distinct().count() == 4) {
                rows.add(row);
            }
        }
        return rows.toArray(new int[0][]);
    }

    static boolean value(int table, int x) {
        return (table >> x & 1) == 1;
    }

    static int withBit(int x, int i, boolean v) {
        return v ? x | 1 << i : x & ~(1 << i);
    }

    static int variable(int i) {
        int t = 0;
        for (int x = 0; x < 16; x++) {
            t = withBit(t, x, value(x, i));
        }
        return t;
    }

    static int and(int a, int b, int how) {
        int t = 0;
        for (int x = 0; x < 16; x++) {
            boolean left = value(a, x) != value(how, 0);
            boolean right = value(b, x) != value(how, 1);
            t = withBit(t, x, (left && right) != value(how, 2));
        }
        return t;
    }

    static int xor(int a, int b) {
        int t = 0;
        for (int x = 0; x < 16; x++) {
            t = withBit(t, x, value(a, x) != value(b, x));
        }
        return t;
    }

    static int part(int a, int i, boolean v) {
        int t = 0;
        for (int x = 0; x < 16; x++) {
            t = withBit(t, x, value(a, withBit(x, i, v)));
        }
        return t;
    }

    static int exchange(int a, int i, int j) {
        int t = 0;
        for (int x = 0; x < 16; x++) {
            int y = withBit(withBit(x, i, value(x, j)), j, value(x, i));
            t = withBit(t, x, value(a, y));
        }
        return t;
    }

    static int compose(int a, int... parts) {
        int t = 0;
        for (int x = 0; x < 16; x++) {
            int y = 0;
            for (int i = 0; i < 4; i++) {
                y = withBit(y, i, value(parts[i], x));
            }
            t = withBit(t, x, value(a, y));
        }
        return t;
    }

    static int go(int a, int way) {
        int p = way / 32;
        int m = way / 2 % 16;
        int n = way % 2;
        int t = 0;
        for (int x = 0; x < 16; x++) {
            int y = 0;
            for (int i = 0; i < 4; i++) {
                y = withBit(y, i, value(x, ORDERS[p][i]) != value(m, i));
            }
            t = withBit(t, x, value(a, y) != (n == 1));
        }
        return t;
    }

    static int way(int a, int b) {
        for (int w = 0; w < 768; w++) {
            if (go(a, w) == b) {
                return w;
            }
        }
        return -1;
    }

    static boolean depends(int a, int i) {
        for (int x = 0; x < 16; x++) {
            if (value(a, withBit(x, i, false)) != value(a, withBit(x, i, true))) {
                return true;
            }
        }
        return false;
    }

    static int rises(int a, int i) {
        boolean less = false;
        boolean greater = false;
        for (int x = 0; x < 16; x++) {
            boolean before = value(a, withBit(x, i, false));
            boolean after = value(a, withBit(x, i, true));
            less |= before && !after;
            greater |= after && !before;
        }
        return less && greater ? 0 : less ? -1 : greater ? 1 : 2;
    }

    /** Product k (0 .. 80): digit i of k in base three is 0 without variable i, 1 with it, 2 with it inverted. */
    private static int product(int k) {
        int t = 0;
        for (int x = 0; x < 16; x++) {
            boolean one = true;
            for (int i = 0; i < 4; i++) {
                int d = digit(k, i);
                one &= d == 0 || value(x, i) == (d == 1);
            }
            t = withBit(t, x, one);
        }
        return t;
    }

    private static int digit(int k, int i) {
        int[] powers = {1, 3, 9, 27};
        return k / powers[i] % 3;
    }

    private static boolean leavesOutOf(int k, int full) {
        for (int i = 0; i < 4; i++) {
            if (digit(k, i) != 0 && digit(k, i) != digit(full, i)) {
                return false;
            }
        }
        return k != full;
    }

    private static int[] products() {
        int[] all = new int[81];
        for (int k = 0; k < 81; k++) {
            all[k] = product(k);
        }
        return all;
    }

    private static boolean[][] leavesOut() {
        boolean[][] all = new boolean[81][81];
        for (int k = 0; k < 81; k++) {
            for (int full = 0; full < 81; full++) {
                all[k][full] = leavesOutOf(k, full);
            }
        }
        return all;
    }

    private static boolean within(int k, int a) {
        return (PRODUCT[k] | a) == a;
    }

    static int primes(int a) {
        int count = 0;
        for (int full = 0; full < 81; full++) {
            boolean prime = within(full, a);
            for (int k = 0; k < 81 && prime; k++) {
                prime = !(LEAVES_OUT[k][full] && within(k, a));
            }
            count += prime ? 1 : 0;
        }
        return count;
    }

    /** Products within a table that cover it are products whose OR is the table: all tables at once, by levels. */
    private static int[] covers() {
        int[] least = new int[65536];
        Arrays.fill(least, -1);
        least[0] = 0;
        for (int level = 0; level < 16; level++) {
            for (int t = 0; t < 65536; t++) {
                for (int k = 0; least[t] == level && k < 81; k++) {
                    int next = t | PRODUCT[k];
                    least[next] = least[next] < 0 ? level + 1 : least[next];
                }
            }
        }
        return least;
    }
}
