import java.lang.reflect.Constructor;
import java.lang.reflect.Field;
import java.lang.reflect.Method;
import java.lang.reflect.Modifier;
import java.util.Arrays;
import java.util.Set;
import java.util.TreeSet;

/** The document's face, and no other member that is not private (rules 1 and 5 of LANGUAGE.md). */
public final class FaceTest {
    private static final String IAE = " throws IllegalArgumentException";

    public static void main(String[] args) {
        Checks c = new Checks();
        c.due("the class is public and final", Modifier.isPublic(FourTable.class.getModifiers())
            && Modifier.isFinal(FourTable.class.getModifiers()), true);
        Constructor<?>[] made = FourTable.class.getDeclaredConstructors();
        c.due("constructors", made.length, 1);
        c.due("the constructor is public and without parameters",
            Modifier.isPublic(made[0].getModifiers()) && made[0].getParameterCount() == 0, true);
        methods(c);
        fields(c);
        c.end();
    }

    private static void methods(Checks c) {
        Set<String> want = new TreeSet<>(Arrays.asList(
            "void set(int, int)" + IAE, "int get(int)" + IAE, "void variable(int, int)" + IAE,
            "void and(int, int, int, int)" + IAE, "void xor(int, int, int)" + IAE,
            "void part(int, int, int, boolean)" + IAE, "void exchange(int, int, int, int)" + IAE,
            "void compose(int, int, int, int, int, int)" + IAE, "void go(int, int, int)" + IAE,
            "int form(int, int)" + IAE, "int size(int)" + IAE, "int way(int, int)" + IAE,
            "int number(int)" + IAE, "int classForm(int) throws NoSuchElementException",
            "boolean depends(int, int)" + IAE, "int rises(int, int)" + IAE, "int primes(int)" + IAE,
            "int cover(int)" + IAE, "int alike(int)" + IAE));
        Set<String> got = new TreeSet<>();
        Set<String> open = new TreeSet<>();
        for (Method m : FourTable.class.getDeclaredMethods()) {
            if (!Modifier.isPrivate(m.getModifiers())) {
                got.add(written(m));
                open.add(m.getName());
            }
        }
        if (!got.equals(want)) {
            c.tell("the face is " + got + ", due is " + want);
        }
        for (Method m : FourTable.class.getDeclaredMethods()) {
            c.due("a private method named " + m.getName(),
                Modifier.isPrivate(m.getModifiers()) && open.contains(m.getName()), false);
        }
    }

    private static String written(Method m) {
        StringBuilder text = new StringBuilder(m.getReturnType().getSimpleName()).append(' ').append(m.getName());
        text.append('(').append(names(m.getParameterTypes())).append(')');
        if (m.getExceptionTypes().length > 0) {
            text.append(" throws ").append(names(m.getExceptionTypes()));
        }
        boolean plain = m.getModifiers() == Modifier.PUBLIC;
        return plain ? text.toString() : Modifier.toString(m.getModifiers()) + " " + text;
    }

    private static String names(Class<?>[] types) {
        StringBuilder text = new StringBuilder();
        for (Class<?> type : types) {
            text.append(text.length() == 0 ? "" : ", ").append(type.getSimpleName());
        }
        return text.toString();
    }

    private static void fields(Checks c) {
        for (Field f : FourTable.class.getDeclaredFields()) {
            c.due("field " + f.getName() + " is private and final",
                Modifier.isPrivate(f.getModifiers()) && Modifier.isFinal(f.getModifiers()), true);
        }
    }
}
