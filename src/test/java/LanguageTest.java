import java.lang.management.ManagementFactory;
import java.lang.reflect.Constructor;
import java.lang.reflect.Executable;
import java.lang.reflect.Field;
import java.lang.reflect.Method;
import java.lang.reflect.Modifier;
import java.nio.file.Files;
import java.nio.file.Path;
import java.util.Arrays;
import java.util.Set;
import java.util.TreeSet;

/** The public face, what can be seen of the rules of LANGUAGE.md, and the room that a run takes. */
public final class LanguageTest {
    private static final String[] FACE = {
        "ColumnDecider() []",
        "boolean write(long) []",
        "void clear() []",
        "int compile() [IllegalArgumentException, IllegalStateException]",
        "int place() []",
        "int formed() []",
        "int variables() []",
        "int next(int, int) []",
        "int accepts(int) []",
        "boolean value(int, long) []",
        "boolean holds() [IllegalStateException]",
        "long count(int) [IllegalArgumentException, IllegalStateException]",
        "int find() [IllegalStateException]",
        "long valueOf(int) []",
        "boolean keep(int) []",
        "int same(int) []",
        "int join(int, int) [IllegalArgumentException, IllegalStateException]"};

    private static String told(String name, Executable e) {
        StringBuilder out = new StringBuilder(name).append('(');
        for (Class<?> c : e.getParameterTypes()) {
            out.append(out.charAt(out.length() - 1) == '(' ? "" : ", ").append(c.getSimpleName());
        }
        Set<String> thrown = new TreeSet<>();
        for (Class<?> c : e.getExceptionTypes()) {
            thrown.add(c.getSimpleName());
        }
        return out.append(") ").append(thrown).toString();
    }

    private static void face() {
        Set<String> seen = new TreeSet<>();
        Set<String> names = new TreeSet<>();
        for (Constructor<?> c : ColumnDecider.class.getDeclaredConstructors()) {
            seen.add(told("ColumnDecider", c));
        }
        for (Method m : ColumnDecider.class.getDeclaredMethods()) {
            if (!Modifier.isPrivate(m.getModifiers())) {
                seen.add(told(m.getReturnType().getSimpleName() + " " + m.getName(), m));
                names.add(m.getName());
            }
        }
        Set<String> due = new TreeSet<>(Arrays.asList(FACE));
        Check.due("the face is " + seen + ", due is " + due, seen.equals(due), true);
        for (Field f : ColumnDecider.class.getDeclaredFields()) {
            Check.due(f + " is private", Modifier.isPrivate(f.getModifiers()), true);
        }
        inside(ColumnDecider.class, names);
        for (Class<?> c : ColumnDecider.class.getDeclaredClasses()) {
            Check.due(c + " is static", Modifier.isStatic(c.getModifiers()), true);
            inside(c, names);
        }
        Check.due("classes, at most", ColumnDecider.class.getDeclaredClasses().length < 12, true);
    }

    private static void inside(Class<?> c, Set<String> publicNames) {
        for (Method m : c.getDeclaredMethods()) {
            boolean own = c == ColumnDecider.class && Modifier.isPublic(m.getModifiers());
            Check.due(m + " bears a public name", !own && publicNames.contains(m.getName()), false);
            Check.due(m + " has few parameters", m.getParameterCount() <= 7, true);
        }
        int fields = 0;
        for (Field f : c.getDeclaredFields()) {
            if (Modifier.isStatic(f.getModifiers())) {
                Check.due(f + " is final", Modifier.isFinal(f.getModifiers()), true);
            } else {
                fields++;
            }
        }
        Check.due(c + " has few fields", fields <= 20, true);
    }

    private static void words() throws Exception {
        String source = Files.readString(Path.of("src/main/java/ColumnDecider.java"));
        Check.due("characters up to 126 alone", source.chars().allMatch(c -> c < 127), true);
        String bare = source.replaceAll("(?s)/\\*.*?\\*/", " ").replaceAll("//[^\n]*", " ")
                .replaceAll("\"[^\"\n]*\"", "\"\"").replaceAll("'[^'\n]+'", "0");
        String[] out = {"import", "package", "synchronized", "assert", "finally", "try", "catch",
            "volatile", "native", "Override", "Object", "hashCode", "toString", "Thread", "System.out",
            "System.nanoTime", "System.currentTimeMillis", "Random", "double", "float", "record", "var"};
        for (String word : out) {
            String pattern = "(?s).*\\b" + word.replace(".", "\\.") + "\\b.*";
            Check.due("the word " + word, bare.matches(pattern), false);
        }
        Check.due("a lambda or a method reference", bare.contains("->") || bare.contains("::"), false);
        Check.due("a method over 60 lines", longestMethod(source) > 60, false);
    }

    /** Methods stand four or eight spaces in, and so do their ends. */
    private static int longestMethod(String source) {
        int longest = 0;
        int begin = 0;
        String[] lines = source.split("\n");
        for (int i = 0; i < lines.length; i++) {
            if (lines[i].matches("( {4}| {8})[a-z].*\\) .*\\{")) {
                begin = i;
            }
            if (lines[i].equals("        }") || lines[i].equals("    }")) {
                longest = Math.max(longest, i - begin + 1);
            }
        }
        return longest;
    }

    private static long madeBytes() {
        return ((com.sun.management.ThreadMXBean) ManagementFactory.getThreadMXBean())
                .getThreadAllocatedBytes(Thread.currentThread().getId());
    }

    /** The dearest calls made 512 times stay far below 7.3 million elements of 4 bytes. */
    private static void room() {
        String text = "Ea.(a-5b<=7&a:3|a=b)=>!(Ab.a<b&17a+1:425)";
        madeBytes();
        long before = madeBytes();
        ColumnDecider x = new ColumnDecider();
        long made = madeBytes() - before;
        Check.due("bytes of a new object, at most 400,000: " + made, made <= 400000, true);
        for (int i = 0; i < text.length(); i++) {
            x.write(text.charAt(i));
        }
        for (int i = 0; i < 150; i++) {
            x.compile();
            x.keep(i % 4);
            x.join(i % 4, i % 3);
        }
        made = madeBytes() - before;
        Check.due("bytes of 512 calls, at most 1,000,000: " + made, made <= 1000000, true);
    }

    public static void main(String[] args) throws Exception {
        face();
        words();
        room();
        Check.end();
    }
}
