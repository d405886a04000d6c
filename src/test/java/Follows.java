import java.util.LinkedHashMap;
import java.util.Map;
import java.util.function.Consumer;
import java.util.function.ToIntFunction;

/** An answer is for what a register holds now, whichever call wrote it: nothing is kept of an earlier answer. */
final class Follows {
    private static final int[] BEFORE = {0, 65535, 1, 255, 43690, 27030, 301, 14295, 6014};

    private Follows() {
    }

    /** What is asked depends on register 7, and may write any register but 5, 6 and 7. */
    static void everyChangeOfRegister7(Checks c, ToIntFunction<FourTable> ask) {
        for (Map.Entry<String, Consumer<FourTable>> write : writesOfRegister7().entrySet()) {
            boolean changed = false;
            for (int before : BEFORE) {
                FourTable x = Held.object(7, before);
                x.set(5, 27581);
                x.set(6, 5736);
                int first = ask.applyAsInt(x);
                write.getValue().accept(x);
                int want = ask.applyAsInt(sameTables(x));
                c.due(before + ", then " + write.getKey(), ask.applyAsInt(x), want);
                changed |= first != want;
            }
            c.due("an answer has changed by " + write.getKey(), changed, true);
        }
    }

    private static FourTable sameTables(FourTable x) {
        FourTable other = new FourTable();
        for (int r = 0; r < 16; r++) {
            other.set(r, x.get(r));
        }
        return other;
    }

    private static Map<String, Consumer<FourTable>> writesOfRegister7() {
        Map<String, Consumer<FourTable>> all = new LinkedHashMap<>();
        all.put("set(7, 1918)", x -> x.set(7, 1918));
        all.put("variable(7, 2)", x -> x.variable(7, 2));
        all.put("and(7, 5, 6, 4)", x -> x.and(7, 5, 6, 4));
        all.put("xor(7, 5, 6)", x -> x.xor(7, 5, 6));
        all.put("part(7, 5, 3, true)", x -> x.part(7, 5, 3, true));
        all.put("exchange(7, 5, 0, 3)", x -> x.exchange(7, 5, 0, 3));
        all.put("compose(7, 5, 6, 5, 6, 5)", x -> x.compose(7, 5, 6, 5, 6, 5));
        all.put("go(7, 5, 611)", x -> x.go(7, 5, 611));
        all.put("form(7, 5)", x -> x.form(7, 5));
        return all;
    }
}
