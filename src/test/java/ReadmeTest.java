import java.io.IOException;
import java.lang.reflect.Method;
import java.lang.reflect.Modifier;
import java.nio.file.Files;
import java.nio.file.Path;
import java.util.List;
import java.util.regex.Matcher;
import java.util.regex.Pattern;

/** What README.md shows holds: its example answers what it says, and its table names every call of the face. */
public final class ReadmeTest {
    private static final Pattern CALL = Pattern.compile("x\\.(\\w+)\\(([^()]*)\\); *(?:// (?:answers ([-\\w]+))?.*)?");

    public static void main(String[] args) throws ReflectiveOperationException {
        Sentences.run(ReadmeTest.class);
    }

    static void theExampleAnswersWhatItSays(Checks c) throws IOException, ReflectiveOperationException {
        List<String> lines = lines();
        int at = lines.indexOf("FourTable x = new FourTable();");
        c.due("there is an example", at >= 0, true);
        FourTable x = new FourTable();
        for (String line : lines.subList(at + 1, lines.size())) {
            if (line.equals("```")) {
                return;
            }
            Matcher call = CALL.matcher(line);
            c.due("this is a call: " + line, call.matches(), true);
            String answer = answer(x, call.group(1), call.group(2).split(", "));
            c.due(line + " and it answered " + answer, call.group(3) == null || answer.equals(call.group(3)), true);
        }
        c.tell("the example has no end");
    }

    static void theTableNamesEveryCallWithItsParameters(Checks c) throws IOException {
        List<String> lines = lines();
        for (Method m : FourTable.class.getDeclaredMethods()) {
            if (Modifier.isPublic(m.getModifiers())) {
                long rows = lines.stream().filter(line -> line.startsWith("| `" + m.getName() + "(")
                    && line.substring(0, line.indexOf(')')).split(", ").length == m.getParameterCount()).count();
                c.due("rows for " + m.getName() + " in the table", rows, 1);
            }
        }
    }

    private static List<String> lines() throws IOException {
        return Files.readAllLines(Path.of("README.md"));
    }

    private static String answer(FourTable x, String name, String[] arguments) throws ReflectiveOperationException {
        for (Method m : FourTable.class.getMethods()) {
            if (m.getName().equals(name) && m.getParameterCount() == arguments.length) {
                Object[] values = new Object[arguments.length];
                for (int k = 0; k < values.length; k++) {
                    boolean isNumber = m.getParameterTypes()[k] == int.class;
                    values[k] = isNumber ? (Object) Integer.valueOf(arguments[k]) : Boolean.valueOf(arguments[k]);
                }
                return String.valueOf(m.invoke(x, values));
            }
        }
        return "no such call";
    }
}
