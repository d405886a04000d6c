import java.util.NoSuchElementException;
import java.util.function.Consumer;
import java.util.function.ObjIntConsumer;

/** Calls with arguments that there are not: refused, with nothing changed, and later calls answer as due. */
final class Refused {
    private Refused() {
    }

    static void noRegister(Checks c, ObjIntConsumer<FourTable> call) {
        outside(c, "register", 15, IllegalArgumentException.class, call);
    }

    static void noVariable(Checks c, ObjIntConsumer<FourTable> call) {
        outside(c, "variable", 3, IllegalArgumentException.class, call);
    }

    static void noTable(Checks c, ObjIntConsumer<FourTable> call) {
        outside(c, "table", 65535, IllegalArgumentException.class, call);
    }

    static void noHow(Checks c, ObjIntConsumer<FourTable> call) {
        outside(c, "how", 7, IllegalArgumentException.class, call);
    }

    static void noWay(Checks c, ObjIntConsumer<FourTable> call) {
        outside(c, "way", 767, IllegalArgumentException.class, call);
    }

    static void noClass(Checks c, ObjIntConsumer<FourTable> call) {
        outside(c, "class", 221, NoSuchElementException.class, call);
    }

    /** A call with several arguments that there are not. */
    static void call(Checks c, String text, Consumer<FourTable> call) {
        FourTable x = Held.object();
        c.dueThrow(text, IllegalArgumentException.class, () -> call.accept(x));
        Held.allLeft(c, text, x);
        goesOn(c, text, x);
    }

    private static void outside(Checks c, String what, int last, Class<? extends RuntimeException> want,
            ObjIntConsumer<FourTable> call) {
        // Beside the edges: numbers that a mask, a cut to fewer bits or a remainder would turn into good ones.
        int[] wrong = {
            -1, last + 1, Integer.MIN_VALUE, Integer.MAX_VALUE,
            -2, last + 2, 2 * (last + 1), -last, -last - 1, last + 65536, 1 << 24, Integer.MIN_VALUE + 1
        };
        for (int n : wrong) {
            String text = what + " " + n;
            FourTable x = Held.object();
            c.dueThrow(text, want, () -> call.accept(x, n));
            Held.allLeft(c, text, x);
            goesOn(c, text, x);
        }
        for (int n : new int[] {0, last}) {
            c.dueNoThrow(what + " " + n, () -> call.accept(Held.object(), n));
        }
    }

    private static void goesOn(Checks c, String text, FourTable x) {
        x.set(15, 38505);
        c.due(text + ", then form(0, 15)", x.form(0, 15), 1);
        c.due(text + ", then get(0)", x.get(0), 27030);
        c.due(text + ", then cover(15)", x.cover(15), 8);
        c.due(text + ", then way(15, 0)", x.way(15, 0), 1);
        x.set(0, Held.table(0));
        Held.onlyChanged(c, text + ", then form(0, 15), set(0, ..)", x, 15, 38505);
    }
}
