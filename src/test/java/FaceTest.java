import java.lang.reflect.Constructor;
import java.lang.reflect.Field;
import java.lang.reflect.Method;
import java.lang.reflect.Modifier;
import java.util.Arrays;
import java.util.Set;
import java.util.TreeSet;

/** The public face, and LANGUAGE.md's rules 1, 5 and 11 as far as the compiled class shows them. */
public final class FaceTest {
    private static final String I = IndexOutOfBoundsException.class.getName();
    private static final String A = IllegalArgumentException.class.getName();

    public static void main(String[] args) {
        Due due = new Due();
        due.sentence("The public face (promises 1 to 11)", "public final class BlockRows", FaceTest::face);
        due.end();
    }

    private static void face(Due due) {
        Class<?> c = BlockRows.class;
        due.same("public and final", c.getModifiers(), Modifier.PUBLIC | Modifier.FINAL);
        Set<String> names = methods(due, c);
        for (Method m : c.getDeclaredMethods()) {
            if (Modifier.isPrivate(m.getModifiers())) {
                due.same(m.getName() + " bears a public name", names.contains(m.getName()) ? 1 : 0, 0);
            }
            due.same(m.getName() + " has seven parameters at most", m.getParameterCount() <= 7 ? 1 : 0, 1);
        }
        constructors(due, c);
        fields(due, c);
        for (Class<?> inside : c.getDeclaredClasses()) {
            due.same(inside + " is static", Modifier.isStatic(inside.getModifiers()) ? 1 : 0, 1);
            due.same(inside + " is not public", Modifier.isPublic(inside.getModifiers()) ? 1 : 0, 0);
        }
    }

    private static Set<String> methods(Due due, Class<?> c) {
        Set<String> want = new TreeSet<>(Arrays.asList("poke 2 " + I + " " + A, "pokeFour 2 " + I, "set 2 " + I,
                "go 1 " + I, "run 1 " + A, "memory 1 " + I, "register 1 " + I, "row 2 " + I, "forget 0", "count 1"));
        Set<String> got = new TreeSet<>();
        Set<String> names = new TreeSet<>();
        for (Method m : c.getDeclaredMethods()) {
            if (Modifier.isPrivate(m.getModifiers())) {
                continue;
            }
            StringBuilder text = new StringBuilder(m.getName()).append(' ').append(m.getParameterCount());
            for (Class<?> e : m.getExceptionTypes()) {
                text.append(' ').append(e.getName());
            }
            got.add(text.toString());
            names.add(m.getName());
            due.same(m + " is public and no more", m.getModifiers(), Modifier.PUBLIC);
            due.same(m + " answers an int", m.getReturnType() == int.class ? 1 : 0, 1);
            for (Class<?> p : m.getParameterTypes()) {
                due.same(m + " takes ints", p == int.class ? 1 : 0, 1);
            }
        }
        due.same("methods " + got, got.equals(want) ? 1 : 0, 1);
        return names;
    }

    private static void constructors(Due due, Class<?> c) {
        Constructor<?>[] all = c.getDeclaredConstructors();
        due.same("constructors", all.length, 1);
        due.same("public", all[0].getModifiers(), Modifier.PUBLIC);
        due.same("parameters", all[0].getParameterCount(), 0);
    }

    private static void fields(Due due, Class<?> c) {
        int own = 0;
        for (Field f : c.getDeclaredFields()) {
            boolean fixed = Modifier.isStatic(f.getModifiers());
            due.same(f + " is private, or NONE", Modifier.isPrivate(f.getModifiers()) != f.getName().equals("NONE") ? 1 : 0, 1);
            due.same(f + " is final when static", fixed && !Modifier.isFinal(f.getModifiers()) ? 1 : 0, 0);
            own += fixed ? 0 : 1;
        }
        due.same("twenty fields at most", own <= 20 ? 1 : 0, 1);
    }
}
