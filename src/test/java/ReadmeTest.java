import java.lang.reflect.Method;
import java.lang.reflect.Modifier;
import java.nio.file.Files;
import java.nio.file.Path;
import java.util.Set;
import java.util.TreeSet;
import java.util.regex.Matcher;
import java.util.regex.Pattern;

/** That README.md tells each call of the face, and that its example answers what it says. */
public final class ReadmeTest {
    private static final Pattern CALL =
            Pattern.compile("x\\.(\\w+)\\(([^)]*)\\); *// (?:(-?\\w+): )?.*");

    private static final Set<String> called = new TreeSet<>();

    private static Set<Method> face() {
        Set<Method> face = new TreeSet<>((a, b) -> a.getName().compareTo(b.getName()));
        for (Method m : ColumnDecider.class.getDeclaredMethods()) {
            if (Modifier.isPublic(m.getModifiers())) {
                face.add(m);
            }
        }
        return face;
    }

    private static Object argument(Class<?> type, String written) {
        String digits = written.trim().replace("L", "");
        return type == int.class ? (Object) Integer.decode(digits) : (Object) Long.decode(digits);
    }

    private static String answer(ColumnDecider x, String name, String arguments) throws Exception {
        String[] written = arguments.isEmpty() ? new String[0] : arguments.split(",");
        for (Method m : face()) {
            if (m.getName().equals(name) && m.getParameterCount() == written.length) {
                Object[] given = new Object[written.length];
                for (int i = 0; i < given.length; i++) {
                    given[i] = argument(m.getParameterTypes()[i], written[i]);
                }
                return String.valueOf(m.invoke(x, given));
            }
        }
        return "no such call";
    }

    private static void example(String readme) throws Exception {
        int begin = readme.indexOf("```java\n") + 8;
        String[] lines = readme.substring(begin, readme.indexOf("```", begin)).split("\n");
        Check.due("the example's first line", lines[0].equals("ColumnDecider x = new ColumnDecider();"), true);
        ColumnDecider x = new ColumnDecider();
        for (int i = 1; i < lines.length; i++) {
            Matcher m = CALL.matcher(lines[i]);
            boolean isCall = m.matches();
            Check.due("\"" + lines[i] + "\" is a call with its answer", isCall, true);
            if (isCall) {
                String got = answer(x, m.group(1), m.group(2));
                String due = m.group(3) == null ? "null" : m.group(3);
                Check.due("\"" + lines[i] + "\" answers " + got + ", that it does so", got.equals(due), true);
                called.add(m.group(1));
            }
        }
    }

    private static void eachCall(String readme) {
        Check.due("a row for new ColumnDecider()", readme.contains("\n| `new ColumnDecider()` |"), true);
        for (Method m : face()) {
            Check.due("the example has " + m.getName(), called.contains(m.getName()), true);
            Check.due("a row for " + m.getName(), row(readme, m).isEmpty(), false);
            for (Class<?> thrown : m.getExceptionTypes()) {
                String told = "`" + thrown.getSimpleName() + "`";
                Check.due("the row of " + m.getName() + " has " + told, row(readme, m).contains(told), true);
            }
        }
    }

    private static String row(String readme, Method m) {
        for (String line : readme.split("\n")) {
            if (line.startsWith("| `" + m.getName() + "(")) {
                return line;
            }
        }
        return "";
    }

    public static void main(String[] args) throws Exception {
        String readme = Files.readString(Path.of("README.md"));
        example(readme);
        eachCall(readme);
        Check.due("how to run the tests", readme.contains("`.ci/run`"), true);
        Check.end();
    }
}
