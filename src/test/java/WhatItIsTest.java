import java.util.function.Consumer;

/**
 * "An object is used for at most 512 calls after it has been made": so each kind of call still does its work as the
 * last of 512 of its kind, and one that answers nothing as the last but one, with a get to show what it did.
 */
public final class WhatItIsTest {
    public static void main(String[] args) throws ReflectiveOperationException {
        Sentences.run(WhatItIsTest.class);
    }

    /** One call more is the last but one. */
    private static FourTable with510Calls(int first, Consumer<FourTable> call) {
        FourTable x = new FourTable();
        x.set(1, first);
        for (int k = 1; k < 510; k++) {
            call.accept(x);
        }
        return x;
    }

    /** One call more is the last. */
    private static FourTable with511Calls(int first, Consumer<FourTable> call) {
        FourTable x = with510Calls(first, call);
        call.accept(x);
        return x;
    }

    static void set(Checks c) {
        FourTable x = with510Calls(27030, o -> o.set(2, 7));
        x.set(15, 65535);
        c.due("get(15) after set(15, 65535)", x.get(15), 65535);
    }

    static void get(Checks c) {
        c.due("get(1)", with511Calls(65535, o -> o.get(1)).get(1), 65535);
    }

    static void variable(Checks c) {
        FourTable x = with510Calls(27030, o -> o.variable(2, 0));
        x.variable(15, 3);
        c.due("get(15) after variable(15, 3)", x.get(15), 65280);
    }

    static void and(Checks c) {
        FourTable x = with510Calls(27030, o -> o.and(2, 2, 1, 4));
        x.and(15, 1, 1, 7);
        c.due("get(15) after and(15, 1, 1, 7)", x.get(15), 27030);
    }

    static void xor(Checks c) {
        FourTable x = with510Calls(27030, o -> o.xor(2, 2, 1));
        x.xor(15, 14, 1);
        c.due("get(15) after xor(15, 14, 1)", x.get(15), 27030);
    }

    static void part(Checks c) {
        FourTable x = with510Calls(32768, o -> o.part(2, 1, 0, true));
        x.part(15, 1, 3, true);
        c.due("get(15) after part(15, 1, 3, true)", x.get(15), 32896);
    }

    static void exchange(Checks c) {
        FourTable x = with510Calls(2, o -> o.exchange(2, 1, 0, 1));
        x.exchange(15, 1, 0, 3);
        c.due("get(15) after exchange(15, 1, 0, 3)", x.get(15), 256);
    }

    static void compose(Checks c) {
        FourTable x = with510Calls(1, o -> o.compose(2, 1, 2, 2, 2, 2));
        x.compose(15, 1, 14, 14, 14, 14);
        c.due("get(15) after compose(15, 1, 14, 14, 14, 14)", x.get(15), 65535);
    }

    static void go(Checks c) {
        FourTable x = with510Calls(14295, o -> o.go(2, 1, 766));
        x.go(15, 1, 767);
        c.due("get(15) after go(15, 1, 767)", x.get(15), 301);
    }

    static void form(Checks c) {
        FourTable x = with511Calls(14295, o -> o.form(2, 1));
        c.due("form(15, 1)", x.form(15, 1), 767);
        x = with510Calls(14295, o -> o.form(2, 1));
        x.form(15, 1);
        c.due("get(15) after form(15, 1)", x.get(15), 301);
    }

    static void size(Checks c) {
        c.due("size(1)", with511Calls(301, o -> o.size(1)).size(1), 768);
    }

    static void way(Checks c) {
        c.due("way(1, 1)", with511Calls(301, o -> o.way(1, 2)).way(1, 1), 0);
        c.due("way(1, 2)", with511Calls(301, o -> o.way(1, 1)).way(1, 2), -1);
        c.due("way(1, 0)", with511Calls(65535, o -> o.way(1, 0)).way(1, 0), 1);
    }

    static void number(Checks c) {
        c.due("number(1)", with511Calls(27030, o -> o.number(1)).number(1), 221);
    }

    static void classForm(Checks c) {
        c.due("classForm(221)", with511Calls(0, o -> o.classForm(221)).classForm(221), 27030);
    }

    static void depends(Checks c) {
        c.due("depends(1, 3)", with511Calls(27030, o -> o.depends(1, 3)).depends(1, 3), true);
        c.due("depends(2, 3)", with511Calls(27030, o -> o.depends(1, 3)).depends(2, 3), false);
    }

    static void rises(Checks c) {
        c.due("rises(1, 3)", with511Calls(255, o -> o.rises(1, 3)).rises(1, 3), -1);
        c.due("rises(1, 2)", with511Calls(255, o -> o.rises(1, 3)).rises(1, 2), 2);
    }

    static void primes(Checks c) {
        c.due("primes(1)", with511Calls(27581, o -> o.primes(1)).primes(1), 13);
    }

    static void cover(Checks c) {
        c.due("cover(1)", with511Calls(27030, o -> o.cover(1)).cover(1), 8);
    }

    static void alike(Checks c) {
        c.due("alike(2)", with511Calls(27030, o -> o.alike(2)).alike(2), 15);
    }

    static void aRefusedCallAsTheLast(Checks c) {
        FourTable x = with511Calls(27030, o -> o.cover(1));
        c.dueThrow("cover(16)", IllegalArgumentException.class, () -> x.cover(16));
        FourTable y = with511Calls(27030, o -> o.cover(1));
        c.dueThrow("set(1, 65536)", IllegalArgumentException.class, () -> y.set(1, 65536));
    }

    static void refusedCallsBeforeTheLast(Checks c) {
        FourTable x = with511Calls(27030,
            o -> c.dueThrow("set(1, -1)", IllegalArgumentException.class, () -> o.set(1, -1)));
        c.due("get(1)", x.get(1), 27030);
    }
}
