/** Tables for tests: the edges first, then a fixed row without plain order. */
final class Samples {
    private static final int[] EDGES = {
        0, 65535, 1, 32768, 43690, 52428, 61680, 65280, 21845, 255, 27030, 38505, 65534, 32767, 5736, 38782
    };

    private Samples() {
    }

    static int table(int k) {
        return k < EDGES.length ? EDGES[k] : mixed(k) & 65535;
    }

    static int mixed(int k) {
        int z = k * 0x9E3779B9;
        z = (z ^ z >>> 16) * 0x85EBCA6B;
        z = (z ^ z >>> 13) * 0xC2B2AE35;
        return z ^ z >>> 16;
    }
}
