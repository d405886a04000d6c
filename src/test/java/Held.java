/** Objects whose sixteen registers hold sixteen tables that differ, so that a change in any of them shows. */
final class Held {
    private Held() {
    }

    static int table(int r) {
        return 12345 + 3001 * r;
    }

    static FourTable object() {
        FourTable x = new FourTable();
        for (int r = 0; r < 16; r++) {
            x.set(r, table(r));
        }
        return x;
    }

    static FourTable object(int r, int table) {
        FourTable x = object();
        x.set(r, table);
        return x;
    }

    static void allLeft(Checks c, String call, FourTable x) {
        for (int r = 0; r < 16; r++) {
            c.due(call + " left register " + r + ", which", x.get(r), table(r));
        }
    }

    /** Register r holds what is wanted, and all others hold what they held. */
    static void onlyChanged(Checks c, String call, FourTable x, int r, int want) {
        for (int k = 0; k < 16; k++) {
            String text = call + (k == r ? " wrote register " : " left register ") + k + ", which";
            c.due(text, x.get(k), k == r ? want : table(k));
        }
    }
}
