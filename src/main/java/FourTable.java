import java.util.NoSuchElementException;

/**
 * Functions of four variables as tables of sixteen bits, held in sixteen registers.
 *
 * Every row is made once, in the constructor or as a written constant: no call makes an object.
 */
public final class FourTable {
    private static final int REGISTERS = 16;
    private static final int VARIABLES = 4;
    private static final int PLACES = 16;
    private static final int ONES = 65535;
    private static final int HOWS = 8;
    private static final int ORDERS = 24;
    private static final int WAYS = 768;
    private static final int WAYS_OF_AN_ORDER = 32;
    private static final int PRODUCTS = 81;
    private static final int CLASSES = 222;

    /** Eight products cover any table: one for each pair of places that differ in variable 0 alone. */
    private static final int MOST_NEEDED = 8;

    private static final int[] VARIABLE_TABLES = {43690, 52428, 61680, 65280};

    /** Place i of order p stands at 4 * p + i. */
    private static final int[] ORDER_PLACES = {
        0, 1, 2, 3,  0, 1, 3, 2,  0, 2, 1, 3,  0, 2, 3, 1,  0, 3, 1, 2,  0, 3, 2, 1,
        1, 0, 2, 3,  1, 0, 3, 2,  1, 2, 0, 3,  1, 2, 3, 0,  1, 3, 0, 2,  1, 3, 2, 0,
        2, 0, 1, 3,  2, 0, 3, 1,  2, 1, 0, 3,  2, 1, 3, 0,  2, 3, 0, 1,  2, 3, 1, 0,
        3, 0, 1, 2,  3, 0, 2, 1,  3, 1, 0, 2,  3, 1, 2, 0,  3, 2, 0, 1,  3, 2, 1, 0
    };

    /** Written out, as finding them anew would mean to go through all 65536 tables; a test finds them anew. */
    private static final int[] CLASS_FORMS = {
        0, 1, 3, 6, 7, 15, 22, 23, 24, 25, 27, 30,
        31, 60, 61, 63, 105, 107, 111, 126, 127, 255, 278, 279,
        280, 281, 282, 283, 286, 287, 300, 301, 303, 316, 317, 318,
        319, 360, 361, 362, 363, 366, 367, 382, 383, 384, 385, 386,
        387, 390, 391, 393, 395, 399, 406, 407, 408, 409, 410, 411,
        414, 415, 424, 425, 426, 427, 428, 429, 430, 431, 444, 445,
        446, 447, 488, 489, 490, 491, 494, 495, 510, 828, 829, 831,
        854, 855, 856, 857, 858, 859, 862, 863, 872, 873, 874, 875,
        876, 877, 878, 879, 892, 893, 894, 960, 961, 963, 965, 966,
        967, 975, 980, 981, 982, 983, 984, 985, 987, 988, 989, 990,
        1020, 1632, 1633, 1634, 1635, 1638, 1639, 1641, 1643, 1647, 1650, 1651,
        1654, 1656, 1657, 1658, 1659, 1662, 1680, 1681, 1683, 1686, 1687, 1695,
        1712, 1713, 1714, 1715, 1716, 1717, 1718, 1719, 1721, 1725, 1776, 1777,
        1778, 1782, 1785, 1910, 1912, 1913, 1914, 1918, 1968, 1969, 1972, 1973,
        1974, 1980, 2016, 2017, 2018, 2019, 2022, 2025, 2032, 2033, 2034, 2040,
        4080, 5736, 5737, 5738, 5739, 5742, 5758, 5761, 5763, 5766, 5767, 5769,
        5771, 5774, 5782, 5783, 5784, 5785, 5786, 5787, 5790, 5801, 5804, 5805,
        5820, 5865, 6014, 6030, 6038, 6040, 6042, 6060, 6120, 6375, 6625, 6627,
        6630, 7128, 7140, 7905, 15555, 27030
    };

    private final int[] registers;

    /** What each way makes of the table that makeAll was last called with. */
    private final int[] made;

    /** The prime products, as tables, of the table that findPrimes was last called with. */
    private final int[] primeTables;

    public FourTable() {
        registers = new int[REGISTERS];
        made = new int[WAYS];
        primeTables = new int[PRODUCTS];
    }

    public void set(int r, int table) throws IllegalArgumentException {
        needRegister(r);
        if (table < 0 || table > ONES) {
            throw new IllegalArgumentException("no such table");
        }
        registers[r] = table;
    }

    public int get(int r) throws IllegalArgumentException {
        needRegister(r);
        return registers[r];
    }

    public void variable(int r, int i) throws IllegalArgumentException {
        needRegister(r);
        needVariable(i);
        registers[r] = VARIABLE_TABLES[i];
    }

    public void and(int r, int a, int b, int how) throws IllegalArgumentException {
        needRegister(r);
        needRegister(a);
        needRegister(b);
        if (how < 0 || how >= HOWS) {
            throw new IllegalArgumentException("no such how");
        }
        int left = invertedIf(registers[a], (how & 1) != 0);
        int right = invertedIf(registers[b], (how & 2) != 0);
        registers[r] = invertedIf(left & right, (how & 4) != 0);
    }

    public void xor(int r, int a, int b) throws IllegalArgumentException {
        needRegister(r);
        needRegister(a);
        needRegister(b);
        registers[r] = registers[a] ^ registers[b];
    }

    public void part(int r, int a, int i, boolean v) throws IllegalArgumentException {
        needRegister(r);
        needRegister(a);
        needVariable(i);
        registers[r] = v ? partAtOne(registers[a], i) : partAtZero(registers[a], i);
    }

    public void exchange(int r, int a, int i, int j) throws IllegalArgumentException {
        needRegister(r);
        needRegister(a);
        needVariable(i);
        needVariable(j);
        registers[r] = composed(registers[a],
            VARIABLE_TABLES[exchanged(0, i, j)], VARIABLE_TABLES[exchanged(1, i, j)],
            VARIABLE_TABLES[exchanged(2, i, j)], VARIABLE_TABLES[exchanged(3, i, j)]);
    }

    public void compose(int r, int a, int b, int c, int d, int e) throws IllegalArgumentException {
        needRegister(r);
        needRegister(a);
        needRegister(b);
        needRegister(c);
        needRegister(d);
        needRegister(e);
        registers[r] = composed(registers[a], registers[b], registers[c], registers[d], registers[e]);
    }

    public void go(int r, int a, int way) throws IllegalArgumentException {
        needRegister(r);
        needRegister(a);
        if (way < 0 || way >= WAYS) {
            throw new IllegalArgumentException("no such way");
        }
        registers[r] = madeBy(registers[a], way >> 5, (way >> 1) & 15, (way & 1) != 0);
    }

    public int form(int r, int a) throws IllegalArgumentException {
        needRegister(r);
        needRegister(a);
        makeAll(registers[a]);
        int way = wayToLeast();
        registers[r] = made[way];
        return way;
    }

    public int size(int a) throws IllegalArgumentException {
        needRegister(a);
        makeAll(registers[a]);
        int same = waysTo(registers[a]);
        // The ways are a group, so each table of the class is made by equally many of them.
        return same > 0 ? WAYS / same : 0;
    }

    public int way(int a, int b) throws IllegalArgumentException {
        needRegister(a);
        needRegister(b);
        makeAll(registers[a]);
        return firstWayTo(registers[b]);
    }

    public int number(int a) throws IllegalArgumentException {
        needRegister(a);
        makeAll(registers[a]);
        return formsBelow(made[wayToLeast()]);
    }

    public int classForm(int number) throws NoSuchElementException {
        if (number < 0 || number >= CLASSES) {
            throw new NoSuchElementException("no such class");
        }
        return CLASS_FORMS[number];
    }

    public boolean depends(int a, int i) throws IllegalArgumentException {
        needRegister(a);
        needVariable(i);
        return partAtZero(registers[a], i) != partAtOne(registers[a], i);
    }

    public int rises(int a, int i) throws IllegalArgumentException {
        needRegister(a);
        needVariable(i);
        int zero = partAtZero(registers[a], i);
        int one = partAtOne(registers[a], i);
        boolean neverLess = isWithin(zero, one);
        boolean neverGreater = isWithin(one, zero);
        if (neverLess) {
            return neverGreater ? 2 : 1;
        }
        return neverGreater ? -1 : 0;
    }

    public int primes(int a) throws IllegalArgumentException {
        needRegister(a);
        return findPrimes(registers[a]);
    }

    public int cover(int a) throws IllegalArgumentException {
        needRegister(a);
        // Prime products are enough, as each product within a table can be widened to a prime one.
        int count = findPrimes(registers[a]);
        return fewest(primeTables, count, registers[a], 0, MOST_NEEDED);
    }

    public int alike(int a) throws IllegalArgumentException {
        needRegister(a);
        makeAll(registers[a]);
        int count = 0;
        for (int r = 0; r < REGISTERS; r++) {
            if (firstWayTo(registers[r]) >= 0) {
                count++;
            }
        }
        return count;
    }

    private static void needRegister(int r) {
        if (r < 0 || r >= REGISTERS) {
            throw new IllegalArgumentException("no such register");
        }
    }

    private static void needVariable(int i) {
        if (i < 0 || i >= VARIABLES) {
            throw new IllegalArgumentException("no such variable");
        }
    }

    private static int invertedIf(int table, boolean inverted) {
        return inverted ? table ^ ONES : table;
    }

    /** Whether the second table is 1 wherever the first one is. */
    private static boolean isWithin(int table, int other) {
        return (table & ~other) == 0;
    }

    private static int partAtZero(int table, int i) {
        int half = table & ~VARIABLE_TABLES[i];
        return half | (half << (1 << i));
    }

    private static int partAtOne(int table, int i) {
        int half = table & VARIABLE_TABLES[i];
        return half | (half >> (1 << i));
    }

    private static int exchanged(int variable, int i, int j) {
        if (variable == i) {
            return j;
        }
        return variable == j ? i : variable;
    }

    /** The table whose value at each place is the first one's where variable k has the value of table vk. */
    private static int composed(int table, int v0, int v1, int v2, int v3) {
        int result = 0;
        for (int x = 0; x < PLACES; x++) {
            int y = bit(v0, x) | (bit(v1, x) << 1) | (bit(v2, x) << 2) | (bit(v3, x) << 3);
            result |= bit(table, y) << x;
        }
        return result;
    }

    private static int bit(int table, int x) {
        return (table >> x) & 1;
    }

    private static int ordered(int table, int order) {
        int first = VARIABLES * order;
        return composed(table,
            VARIABLE_TABLES[ORDER_PLACES[first]], VARIABLE_TABLES[ORDER_PLACES[first + 1]],
            VARIABLE_TABLES[ORDER_PLACES[first + 2]], VARIABLE_TABLES[ORDER_PLACES[first + 3]]);
    }

    private static int withInverse(int table, int i) {
        int shift = 1 << i;
        return ((table & VARIABLE_TABLES[i]) >> shift) | ((table & ~VARIABLE_TABLES[i]) << shift);
    }

    /** Inverting comes behind ordering here, so bit i of mask is for the variable that order puts in place i. */
    private static int madeBy(int table, int order, int mask, boolean inverted) {
        int result = ordered(table, order);
        for (int i = 0; i < VARIABLES; i++) {
            if (bit(mask, i) != 0) {
                result = withInverse(result, ORDER_PLACES[VARIABLES * order + i]);
            }
        }
        return invertedIf(result, inverted);
    }

    private void makeAll(int table) {
        for (int order = 0; order < ORDERS; order++) {
            makeAllOfOrder(table, order);
        }
    }

    /** Each variable's inverse doubles the tables that are there: far fewer steps than way by way. */
    private void makeAllOfOrder(int table, int order) {
        int first = WAYS_OF_AN_ORDER * order;
        made[first] = ordered(table, order);
        for (int i = 0; i < VARIABLES; i++) {
            int known = 2 << i;
            for (int k = 0; k < known; k += 2) {
                made[first + known + k] = withInverse(made[first + k], ORDER_PLACES[VARIABLES * order + i]);
            }
        }
        for (int k = 0; k < WAYS_OF_AN_ORDER; k += 2) {
            made[first + k + 1] = made[first + k] ^ ONES;
        }
    }

    private int wayToLeast() {
        int least = 0;
        for (int way = 1; way < WAYS; way++) {
            if (made[way] < made[least]) {
                least = way;
            }
        }
        return least;
    }

    private int firstWayTo(int table) {
        for (int way = 0; way < WAYS; way++) {
            if (made[way] == table) {
                return way;
            }
        }
        return -1;
    }

    private int waysTo(int table) {
        int count = 0;
        for (int way = 0; way < WAYS; way++) {
            if (made[way] == table) {
                count++;
            }
        }
        return count;
    }

    private static int formsBelow(int form) {
        int count = 0;
        for (int k = 0; k < CLASSES; k++) {
            if (CLASS_FORMS[k] < form) {
                count++;
            }
        }
        return count;
    }

    /** Fills primeTables from its start, and answers how many there are. */
    private int findPrimes(int table) {
        int count = 0;
        for (int used = 0; used < PLACES; used++) {
            for (int upright = 0; upright < PLACES; upright++) {
                // Only variables that are used can be upright: this leaves each product once.
                if (isWithin(upright, used) && isPrime(used, upright, table) && count < PRODUCTS) {
                    primeTables[count] = product(used, upright);
                    count++;
                }
            }
        }
        return count;
    }

    /** To leave out one variable is enough of a trial: a product is within each that has fewer variables. */
    private static boolean isPrime(int used, int upright, int table) {
        if (!isWithin(product(used, upright), table)) {
            return false;
        }
        for (int i = 0; i < VARIABLES; i++) {
            int others = ~(1 << i);
            if (bit(used, i) != 0 && isWithin(product(used & others, upright & others), table)) {
                return false;
            }
        }
        return true;
    }

    private static int product(int used, int upright) {
        int table = ONES;
        for (int i = 0; i < VARIABLES; i++) {
            if (bit(used, i) != 0) {
                table &= invertedIf(VARIABLE_TABLES[i], bit(upright, i) == 0);
            }
        }
        return table;
    }

    /**
     * The least number of products that cover what is open, with those already taken, where that is less than best;
     * else best. It goes no deeper than best, as each level takes one product.
     */
    private static int fewest(int[] products, int count, int open, int taken, int best) {
        if (open == 0) {
            return taken;
        }
        if (taken + 1 >= best) {
            return best;
        }
        int lowest = open & -open;
        int least = best;
        for (int k = 0; k < count && k < products.length; k++) {
            if ((products[k] & lowest) != 0) {
                least = fewest(products, count, open & ~products[k], taken + 1, least);
            }
        }
        return least;
    }
}
