import java.lang.reflect.InvocationTargetException;
import java.lang.reflect.Method;
import java.lang.reflect.Modifier;
import java.util.ArrayList;
import java.util.Arrays;
import java.util.Comparator;
import java.util.List;
import java.util.Random;

/** Arguments and texts from all over, in courts of all sizes: a call throws what its face names, or nothing, and counts it. */
public final class HostileTest {
    private static final int[] EDGES = {Integer.MIN_VALUE, Integer.MAX_VALUE, -1, 0, 1, 2, 6, 7, 11, 12, 31, 32, 63, 127,
        128, 4095, 4096, 9_999, 10_000, 1 << 31 - 1, -2, 600, 20};
    private static final String[] COURTS = {"", "back 1 0;", "council 9 9;", "back 99 9;".repeat(7),
        "council 9 9;".repeat(12), "back 99 9;".repeat(7) + "council 9 9;".repeat(12) + "king 40;"};
    private static final String[] LAWS = {"weight", "999*999*999*999*lie", "0-999*999", "1/(weight-weight)", "lie%held"};
    private static final String[] SIGNS = {"back ", "council ", "king ", "sit ", "tell ", "hold ", "rest ", "day", "again ",
        "weight", "held", "lie", "hours", "care", "tired", "knows", "least[", "most[", "[", "]", "(", ")", ",", ";", ";", ";", "+",
        "-", "*", "/", "%", " ", "0 ", "1 ", "6 ", "9 ", "11 ", "40 ", "99 ", "999", "4294967296", "x", "\u0000", "\u00ff"};
    private static final String[] READS = {"court", "law", "work", "book"};
    private static final int[] MOST = {600, 150, 150, 60};

    public static void main(String[] args) throws Exception {
        askAll(new Random(5));
        readAll(new Random(6));
        Checks.finish();
    }

    private static void askAll(Random random) throws Exception {
        List<Method> face = new ArrayList<>(Arrays.asList(ThroneBacks.class.getDeclaredMethods()));
        face.removeIf(m -> !Modifier.isPublic(m.getModifiers()));
        face.sort(Comparator.comparing(Method::getName));
        for (int run = 0; run < 300; run++) {
            ThroneBacks x = Checks.courtOf(COURTS[run % COURTS.length]);
            Checks.law(x, LAWS[random.nextInt(LAWS.length)]);
            if (run % COURTS.length == COURTS.length - 1) {
                Checks.work(x, "again 30[sit 0 0;sit 6 11;tell 6 5;rest 0;day;];");
                Checks.book(x, "0 999;6 0;");
            }
            for (Method m : face) {
                ask(x, m, random);
            }
        }
    }

    private static void ask(ThroneBacks x, Method m, Random random) throws Exception {
        Object[] args = new Object[m.getParameterCount()];
        for (int time = 0; time < 4; time++) {
            for (int i = 0; i < args.length; i++) {
                args[i] = random.nextInt(4) == 0 ? random.nextInt() : EDGES[random.nextInt(EDGES.length)];
            }
            int refused = x.status(0) + x.status(1);
            int due = refused;
            try {
                m.invoke(x, args);
            } catch (InvocationTargetException e) {
                Class<?> thrown = e.getCause().getClass();
                boolean named = Arrays.asList(m.getExceptionTypes()).contains(thrown);
                Checks.due(m.getName() + Arrays.toString(args) + " threw " + thrown, named ? 1 : 0, 1);
                due++;
            }
            Checks.due(m.getName() + Arrays.toString(args) + " counted", x.status(0) + x.status(1), due);
        }
    }

    /** Texts of signs in any order: each is read, or has a fault within it. */
    private static void readAll(Random random) throws Exception {
        for (int run = 0; run < 4_000; run++) {
            ThroneBacks x = Checks.courtOf(COURTS[run % COURTS.length]);
            int reader = random.nextInt(READS.length);
            StringBuilder text = new StringBuilder();
            int most = random.nextInt(MOST[reader] + 1);
            boolean deep = random.nextInt(3) == 0;
            while (text.length() < most) {
                text.append(deep && random.nextInt(2) == 0 ? "(" : SIGNS[random.nextInt(SIGNS.length)]);
            }
            text.setLength(most);
            Method m = ThroneBacks.class.getMethod(READS[reader], int.class);
            int answer = (int) m.invoke(x, Checks.put(x, text.toString()));
            boolean faulty = answer >= -9 && answer <= -7;
            Checks.due("answer to " + text, faulty || answer >= 0 ? 1 : 0, 1);
            Checks.due("place in " + text, faulty == (x.fault() >= 0) && x.fault() <= most ? 1 : 0, 1);
            Checks.due("tape behind " + text, x.count(1), 0);
        }
    }
}
