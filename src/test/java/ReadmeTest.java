import java.io.IOException;
import java.lang.reflect.InvocationTargetException;
import java.lang.reflect.Method;
import java.lang.reflect.Modifier;
import java.nio.file.Files;
import java.nio.file.Path;
import java.util.Arrays;
import java.util.List;
import java.util.Set;
import java.util.TreeSet;
import java.util.regex.Matcher;
import java.util.regex.Pattern;

/**
 * README.md: the calls of its example answer what stands behind them, and no call of the face is missing
 * in the example or in the table. It is run where README.md lies, as .ci/run does.
 */
public final class ReadmeTest {
    private static final Pattern CALL = Pattern.compile("x\\.(\\w+)\\(([^)]*)\\); +// (throws \\w+|-?\\d+:).*");
    private static final Pattern TABLE_ROW = Pattern.compile("\\| `(\\w+)\\(.*");

    public static void main(String[] args) throws IOException {
        List<String> lines = Files.readAllLines(Path.of("README.md"));
        Due due = new Due();
        due.sentence("Promises 1 to 11", "README.md's example", d -> example(d, lines));
        due.sentence("The public face", "README.md's table of calls", d -> table(d, lines));
        due.end();
    }

    private static void example(Due due, List<String> lines) {
        BlockRows x = new BlockRows();
        Set<String> named = new TreeSet<>();
        for (String line : lines) {
            if (line.startsWith("x.")) {
                Matcher call = CALL.matcher(line);
                boolean read = call.matches();
                due.same(line + " can be read", read ? 1 : 0, 1);
                if (read) {
                    named.add(call.group(1));
                    String got = answer(x, call.group(1), numbers(call.group(2)));
                    due.same(line + " answers " + got, got.equals(call.group(3)) ? 1 : 0, 1);
                }
            }
        }
        due.same("the example's calls " + named, named.equals(face()) ? 1 : 0, 1);
    }

    private static void table(Due due, List<String> lines) {
        Set<String> named = new TreeSet<>();
        for (String line : lines) {
            Matcher row = TABLE_ROW.matcher(line);
            if (row.matches()) {
                named.add(row.group(1));
                Method method = method(row.group(1));
                String last = line.substring(line.lastIndexOf('|', line.length() - 2));
                for (Class<?> e : Arrays.asList(IndexOutOfBoundsException.class, IllegalArgumentException.class)) {
                    due.same(row.group(1) + " tells of " + e.getSimpleName(),
                            last.contains("`" + e.getSimpleName() + "` when") ? 1 : 0,
                            Arrays.asList(method.getExceptionTypes()).contains(e) ? 1 : 0);
                }
            }
        }
        due.same("the table's calls " + named, named.equals(face()) ? 1 : 0, 1);
    }

    private static Set<String> face() {
        Set<String> names = new TreeSet<>();
        for (Method m : BlockRows.class.getDeclaredMethods()) {
            if (Modifier.isPublic(m.getModifiers())) {
                names.add(m.getName());
            }
        }
        return names;
    }

    private static Method method(String name) {
        for (Method m : BlockRows.class.getDeclaredMethods()) {
            if (m.getName().equals(name)) {
                return m;
            }
        }
        throw new IllegalStateException("the class has no " + name);
    }

    private static Object[] numbers(String text) {
        if (text.isEmpty()) {
            return new Object[0];
        }
        return Arrays.stream(text.split(", ")).map(t -> (Object) Long.decode(t).intValue()).toArray();
    }

    /** Written as the example writes it. */
    private static String answer(BlockRows x, String name, Object[] with) {
        try {
            return method(name).invoke(x, with) + ":";
        } catch (InvocationTargetException e) {
            return "throws " + e.getCause().getClass().getSimpleName();
        } catch (IllegalAccessException e) {
            throw new IllegalStateException(e);
        }
    }
}
