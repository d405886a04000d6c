import java.util.NoSuchElementException;

/** "The form of a class by its number. Throws NoSuchElementException when there is none." */
public final class Promise15ClassFormTest {
    public static void main(String[] args) throws ReflectiveOperationException {
        Sentences.run(Promise15ClassFormTest.class);
    }

    static void theFirstClass(Checks c) {
        c.due("classForm(0)", new FourTable().classForm(0), 0);
    }

    static void theSecondClass(Checks c) {
        c.due("classForm(1)", new FourTable().classForm(1), 1);
    }

    static void theLastClass(Checks c) {
        c.due("classForm(221)", new FourTable().classForm(221), 27030);
    }

    static void theLastClassButOne(Checks c) {
        c.due("classForm(220)", new FourTable().classForm(220), 15555);
    }

    static void eachFormIsGreaterThanTheOneBefore(Checks c) {
        FourTable x = new FourTable();
        for (int n = 1; n < 222; n++) {
            c.due("classForm(" + n + ") is greater", x.classForm(n) > x.classForm(n - 1), true);
        }
    }

    static void eachIsTheFormOfItsClass(Checks c) {
        for (int n = 0; n < 222; n++) {
            FourTable x = new FourTable();
            x.set(0, x.classForm(n));
            c.due("form of classForm(" + n + "): the way", x.form(1, 0), 0);
            c.due("form of classForm(" + n + ")", x.get(1), x.get(0));
        }
    }

    static void theRegistersDoNotMatterAndAreLeft(Checks c) {
        FourTable x = Held.object();
        c.due("classForm(31)", x.classForm(31), 301);
        x.number(3);
        c.due("classForm(31) after number(3)", x.classForm(31), 301);
        Held.allLeft(c, "classForm", x);
    }

    static void noSuchClass(Checks c) {
        Refused.noClass(c, (x, n) -> x.classForm(n));
    }

    static void aClassFormAfterARefusedOne(Checks c) {
        FourTable x = Held.object();
        c.dueThrow("classForm(222)", NoSuchElementException.class, () -> x.classForm(222));
        c.due("classForm(221)", x.classForm(221), 27030);
        c.dueThrow("classForm(-1)", NoSuchElementException.class, () -> x.classForm(-1));
        c.due("classForm(0)", x.classForm(0), 0);
    }
}
