import com.sun.management.ThreadMXBean;
import java.lang.management.ManagementFactory;
import java.lang.reflect.Array;
import java.lang.reflect.Field;
import java.lang.reflect.Modifier;
import java.util.ArrayList;
import java.util.LinkedHashMap;
import java.util.List;
import java.util.Map;
import java.util.NoSuchElementException;
import java.util.function.Consumer;

/** The sentences of "Terms" that no promise says again. */
public final class TermsTest {
    public static void main(String[] args) throws ReflectiveOperationException {
        Sentences.run(TermsTest.class);
    }

    /** "its bit x .. is the function's value where variable i is bit i of x" */
    static void bitXIsTheValueWhereVariableIIsBitIOfX(Checks c) {
        for (int place = 0; place < 16; place++) {
            for (int at = 0; at < 16; at++) {
                FourTable x = new FourTable();
                x.set(1, 1 << place);
                for (int i = 0; i < 4; i++) {
                    x.set(2 + i, (at >> i & 1) == 1 ? 65535 : 0);
                }
                x.compose(0, 1, 2, 3, 4, 5);
                c.due("value of bit " + place + " alone at place " + at, x.get(0), place == at ? 65535 : 0);
            }
        }
    }

    /** "REGISTERS 0 .. 15": each is there, and there are no two for one number. */
    static void thereAreSixteenRegisters(Checks c) {
        Held.allLeft(c, "sixteen sets", Held.object());
    }

    /** "Its CLASS: all tables with the same form." */
    static void tablesAreOfOneClassWhenTheirFormsAreTheSame(Checks c) {
        for (int k = 0; k < 1000; k++) {
            FourTable x = new FourTable();
            x.set(0, Samples.table(k));
            x.set(1, k % 2 == 0 ? Samples.table(k + 1) : Model.go(Samples.table(k), k % 768));
            x.form(2, 0);
            x.form(3, 1);
            boolean same = x.get(2) == x.get(3);
            c.due("way for sample " + k, x.way(0, 1) >= 0, same);
            c.due("number for sample " + k, x.number(0) == x.number(1), same);
        }
    }

    /** "a call that throws changes nothing": all of them in a row. */
    static void noneOfAllRefusedCallsChangesAnything(Checks c) {
        FourTable x = Held.object();
        for (Map.Entry<String, Consumer<FourTable>> call : refusedCalls().entrySet()) {
            refuse(c, call, x);
        }
        Held.allLeft(c, "all refused calls", x);
    }

    /** "a call that throws changes nothing": nothing that is remembered inside, either. */
    static void aRefusedCallBetweenTwoGoodOnesDoesNotShow(Checks c) {
        for (Map.Entry<String, Consumer<FourTable>> call : refusedCalls().entrySet()) {
            FourTable x = Held.object();
            String before = answers(x);
            refuse(c, call, x);
            c.due("the answers after " + call.getKey() + " are those before", answers(x).equals(before), true);
        }
    }

    /** "All memory is the class's own, made once": an object's rows stay those that it was made with. */
    static void theRowsOfAnObjectStayTheSame(Checks c) throws IllegalAccessException {
        FourTable x = Held.object();
        List<Object> before = rows(x, false);
        for (Consumer<FourTable> call : goodCalls().values()) {
            call.accept(x);
        }
        List<Object> after = rows(x, false);
        c.due("number of rows", before.size(), after.size());
        for (int k = 0; k < before.size() && k < after.size(); k++) {
            c.due("row " + k + " is the one that was made", before.get(k) == after.get(k), true);
        }
    }

    /** "All memory is the class's own": no row is shared by two objects. */
    static void noRowIsSharedByTwoObjects(Checks c) throws IllegalAccessException {
        List<Object> first = rows(new FourTable(), false);
        List<Object> second = rows(new FourTable(), false);
        for (int k = 0; k < first.size(); k++) {
            c.due("row " + k + " is shared", first.get(k) == second.get(k), false);
        }
    }

    static void noCallChangesAWrittenRow(Checks c) throws IllegalAccessException {
        String before = written();
        FourTable x = Held.object();
        for (Consumer<FourTable> call : goodCalls().values()) {
            call.accept(x);
        }
        c.due("the written rows are as before", written().equals(before), true);
    }

    /** "made once": no call makes an object. The least object has 16 bytes. */
    static void noCallMakesAnObject(Checks c) {
        int times = 400;
        for (Map.Entry<String, Consumer<FourTable>> call : goodCalls().entrySet()) {
            bytesOf(call.getValue(), times);
            long bytes = bytesOf(call.getValue(), times);
            c.due(times + " calls of " + call.getKey() + " made " + bytes + " bytes", bytes >= 16L * times, false);
        }
    }

    private static long bytesOf(Consumer<FourTable> call, int times) {
        ThreadMXBean threads = (ThreadMXBean) ManagementFactory.getThreadMXBean();
        FourTable x = Held.object();
        long before = threads.getCurrentThreadAllocatedBytes();
        for (int k = 0; k < times; k++) {
            call.accept(x);
        }
        return threads.getCurrentThreadAllocatedBytes() - before;
    }

    private static List<Object> rows(FourTable x, boolean isStatic) throws IllegalAccessException {
        List<Object> all = new ArrayList<>();
        for (Field f : FourTable.class.getDeclaredFields()) {
            if (f.getType().isArray() && Modifier.isStatic(f.getModifiers()) == isStatic) {
                f.setAccessible(true);
                all.add(f.get(x));
            }
        }
        return all;
    }

    private static String written() throws IllegalAccessException {
        StringBuilder text = new StringBuilder();
        for (Object row : rows(null, true)) {
            for (int k = 0; k < Array.getLength(row); k++) {
                text.append(Array.get(row, k)).append(' ');
            }
            text.append('\n');
        }
        return text.toString();
    }

    private static void refuse(Checks c, Map.Entry<String, Consumer<FourTable>> call, FourTable x) {
        boolean ofClass = call.getKey().startsWith("classForm");
        c.dueThrow(call.getKey(), ofClass ? NoSuchElementException.class : IllegalArgumentException.class,
            () -> call.getValue().accept(x));
    }

    private static String answers(FourTable x) {
        StringBuilder text = new StringBuilder();
        for (int r = 0; r < 16; r++) {
            text.append(x.get(r)).append(' ').append(x.size(r)).append(' ').append(x.way(r, 15 - r)).append(' ');
            text.append(x.number(r)).append(' ').append(x.depends(r, r % 4)).append(' ').append(x.rises(r, r % 4));
            text.append(' ').append(x.primes(r)).append(' ').append(x.cover(r)).append(' ').append(x.alike(r));
            text.append(' ').append(x.classForm(r)).append('\n');
        }
        return text.toString();
    }

    private static Map<String, Consumer<FourTable>> goodCalls() {
        Map<String, Consumer<FourTable>> all = new LinkedHashMap<>();
        all.put("set", x -> x.set(0, 27581));
        all.put("get", x -> x.get(0));
        all.put("variable", x -> x.variable(1, 3));
        all.put("and", x -> x.and(2, 0, 1, 7));
        all.put("xor", x -> x.xor(3, 0, 1));
        all.put("part", x -> x.part(4, 0, 3, true));
        all.put("exchange", x -> x.exchange(5, 0, 0, 3));
        all.put("compose", x -> x.compose(6, 0, 1, 2, 3, 4));
        all.put("go", x -> x.go(7, 0, 767));
        all.put("form", x -> x.form(8, 9));
        all.put("size", x -> x.size(9));
        all.put("way", x -> x.way(9, 10));
        all.put("number", x -> x.number(9));
        all.put("classForm", x -> x.classForm(221));
        all.put("depends", x -> x.depends(9, 3));
        all.put("rises", x -> x.rises(9, 3));
        all.put("primes", x -> x.primes(9));
        all.put("cover", x -> x.cover(9));
        all.put("alike", x -> x.alike(9));
        return all;
    }

    private static Map<String, Consumer<FourTable>> refusedCalls() {
        Map<String, Consumer<FourTable>> all = new LinkedHashMap<>();
        all.put("set(0, 65536)", x -> x.set(0, 65536));
        all.put("set(16, 0)", x -> x.set(16, 0));
        all.put("get(16)", x -> x.get(16));
        all.put("variable(0, 4)", x -> x.variable(0, 4));
        all.put("and(0, 1, 2, 8)", x -> x.and(0, 1, 2, 8));
        all.put("xor(0, 1, 16)", x -> x.xor(0, 1, 16));
        all.put("part(0, 1, 4, true)", x -> x.part(0, 1, 4, true));
        all.put("exchange(0, 1, 2, 4)", x -> x.exchange(0, 1, 2, 4));
        all.put("compose(0, 1, 2, 3, 4, 16)", x -> x.compose(0, 1, 2, 3, 4, 16));
        all.put("go(0, 1, 768)", x -> x.go(0, 1, 768));
        all.put("form(0, 16)", x -> x.form(0, 16));
        all.put("form(16, 0)", x -> x.form(16, 0));
        all.put("size(16)", x -> x.size(16));
        all.put("way(0, 16)", x -> x.way(0, 16));
        all.put("number(16)", x -> x.number(16));
        all.put("classForm(222)", x -> x.classForm(222));
        all.put("classForm(-1)", x -> x.classForm(-1));
        all.put("depends(0, 4)", x -> x.depends(0, 4));
        all.put("rises(0, 4)", x -> x.rises(0, 4));
        all.put("primes(16)", x -> x.primes(16));
        all.put("cover(16)", x -> x.cover(16));
        all.put("alike(16)", x -> x.alike(16));
        return all;
    }
}
