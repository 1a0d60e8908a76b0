import java.lang.reflect.Constructor;
import java.lang.reflect.Field;
import java.lang.reflect.Method;
import java.lang.reflect.Modifier;
import java.util.Arrays;
import java.util.Set;
import java.util.TreeSet;

/** The public face is the document's, and no other member is to be seen from outside. */
public final class FaceTest {
    private static final String[] FACE = {
        "int feed 5 -", "int court 1 A", "int law 1 A", "int work 1 A", "int book 1 A", "int fault 0 -", "int undo 0 -",
        "int told 1 A", "int back 2 NA", "int council 2 NA", "int hearing 2 N", "int load 2 N", "int burden 2 N",
        "int would 9 A", "int ahead 2 A", "int could 1 N", "int roster 1 A", "int gives 2 NA", "int word 1 N",
        "int ease 2 A", "int fits 1 A", "int look 1 A", "int quorum 2 A", "long lies 4 A", "int kneel 3 A",
        "int balm 3 NA", "int weariest 1 A", "int heaviest 2 NA", "int listeners 1 N", "int ready 2 N", "int sure 2 NA",
        "int bearers 1 N", "int rumour 2 NA", "int lied 2 A", "int reign 4 A", "int span 6 A", "int image 0 -",
        "int restore 0 -", "int status 1 -", "int count 1 -"};

    public static void main(String[] args) {
        Class<ThroneBacks> c = ThroneBacks.class;
        Set<String> seen = new TreeSet<>();
        Set<String> names = new TreeSet<>();
        for (Method m : c.getDeclaredMethods()) {
            if (!Modifier.isPrivate(m.getModifiers())) {
                names.add(m.getName());
                seen.add(told(m));
            }
        }
        Checks.due("face: " + difference(seen), seen.equals(new TreeSet<>(Arrays.asList(FACE))) ? 1 : 0, 1);
        Checks.due("public and final", c.getModifiers(), Modifier.PUBLIC | Modifier.FINAL);
        Constructor<?>[] constructors = c.getDeclaredConstructors();
        Checks.due("one constructor", constructors.length, 1);
        Checks.due("a public one", constructors[0].getModifiers(), Modifier.PUBLIC);
        Checks.due("without arguments", constructors[0].getParameterCount(), 0);
        for (Field f : c.getDeclaredFields()) {
            boolean isNone = f.getName().equals("NONE");
            int want = isNone ? Modifier.PUBLIC | Modifier.STATIC | Modifier.FINAL : f.getModifiers() | Modifier.PRIVATE;
            Checks.due("field " + f.getName(), f.getModifiers(), want);
        }
        Checks.due("NONE", ThroneBacks.NONE, -1);
        checkInside(c, names);
        Checks.finish();
    }

    private static void checkInside(Class<?> c, Set<String> names) {
        for (Method m : c.getDeclaredMethods()) {
            boolean twice = Modifier.isPrivate(m.getModifiers()) && names.contains(m.getName());
            Checks.due("private with a public name: " + m.getName(), twice ? 1 : 0, 0);
        }
        for (Class<?> inner : c.getDeclaredClasses()) {
            int bits = inner.getModifiers();
            Checks.due("static: " + inner.getName(), bits & Modifier.STATIC, Modifier.STATIC);
            Checks.due("private: " + inner.getName(), bits & Modifier.PRIVATE, Modifier.PRIVATE);
            for (Method m : inner.getDeclaredMethods()) {
                Checks.due("a public name inside: " + m.getName(), names.contains(m.getName()) ? 1 : 0, 0);
                Checks.due("parameters of " + m.getName(), Math.max(7, m.getParameterCount()), 7);
            }
        }
        Checks.due("classes", Math.max(11, c.getDeclaredClasses().length), 11);
    }

    private static String told(Method m) {
        StringBuilder thrown = new StringBuilder();
        for (Class<?> e : m.getExceptionTypes()) {
            thrown.append(e == IllegalArgumentException.class ? "A" : e == java.util.NoSuchElementException.class ? "N" : "?");
        }
        boolean ints = Arrays.stream(m.getParameterTypes()).allMatch(p -> p == int.class);
        boolean plain = m.getModifiers() == Modifier.PUBLIC && ints;
        return m.getReturnType() + " " + m.getName() + " " + m.getParameterCount() + " "
            + (thrown.length() == 0 ? "-" : thrown) + (plain ? "" : " not plain");
    }

    private static String difference(Set<String> seen) {
        Set<String> want = new TreeSet<>(Arrays.asList(FACE));
        Set<String> more = new TreeSet<>(seen);
        more.removeAll(want);
        want.removeAll(seen);
        return "more " + more + ", missing " + want;
    }
}
