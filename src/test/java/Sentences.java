import java.lang.reflect.InvocationTargetException;
import java.lang.reflect.Method;
import java.lang.reflect.Modifier;
import java.util.Map;
import java.util.TreeMap;

/**
 * Runs a class's tests: each static method that takes a Checks alone is one, and its name tells the sentence that it
 * is for. So no test can be written and then forgotten in a list.
 */
final class Sentences {
    private Sentences() {
    }

    static void run(Class<?> tests) throws ReflectiveOperationException {
        Map<String, Method> all = new TreeMap<>();
        for (Method m : tests.getDeclaredMethods()) {
            Class<?>[] takes = m.getParameterTypes();
            boolean isOpen = Modifier.isStatic(m.getModifiers()) && !Modifier.isPrivate(m.getModifiers());
            if (isOpen && takes.length == 1 && takes[0] == Checks.class) {
                all.put(m.getName(), m);
            }
        }
        int failed = 0;
        for (Map.Entry<String, Method> test : all.entrySet()) {
            Checks c = new Checks(tests.getName() + "." + test.getKey() + ": ");
            try {
                test.getValue().invoke(null, c);
            } catch (InvocationTargetException e) {
                c.tell("threw " + e.getCause());
            }
            if (!c.isGood()) {
                System.out.println("not held: " + tests.getName() + "." + test.getKey());
                failed++;
            }
        }
        System.out.println(all.size() + " sentences tested, " + failed + " not held");
        if (failed > 0 || all.isEmpty()) {
            System.exit(1);
        }
    }
}
