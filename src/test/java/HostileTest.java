import java.lang.reflect.InvocationTargetException;
import java.lang.reflect.Method;
import java.lang.reflect.Modifier;
import java.util.Arrays;
import java.util.Random;

/** Arguments from all over, in courts of all sizes: a call throws what its face names, or nothing, and counts it. */
public final class HostileTest {
    private static final int[] EDGES = {Integer.MIN_VALUE, Integer.MAX_VALUE, -1, 0, 1, 2, 6, 7, 11, 12, 31, 32, 63, 127,
        128, 4095, 4096, 9_999, 10_000, 1 << 31 - 1, -2, 600, 20};
    private static final String[] COURTS = {"", "back 1 0;", "council 9 9;", "back 99 9;".repeat(7),
        "council 9 9;".repeat(12), "back 99 9;".repeat(7) + "council 9 9;".repeat(12) + "king 40;"};
    private static final String[] LAWS = {"weight", "999*999*999*999*lie", "0-999*999", "1/(weight-weight)", "lie%held"};

    public static void main(String[] args) throws Exception {
        Random random = new Random(5);
        for (int run = 0; run < 300; run++) {
            ThroneBacks x = Checks.courtOf(COURTS[run % COURTS.length]);
            Checks.law(x, LAWS[random.nextInt(LAWS.length)]);
            if (run % COURTS.length == COURTS.length - 1) {
                Checks.work(x, "again 30[sit 0 0;sit 6 11;tell 6 5;rest 0;day;];");
                Checks.book(x, "0 999;6 0;");
            }
            for (Method m : ThroneBacks.class.getDeclaredMethods()) {
                if (Modifier.isPublic(m.getModifiers())) {
                    ask(x, m, random);
                }
            }
        }
        Checks.finish();
    }

    private static void ask(ThroneBacks x, Method m, Random random) throws Exception {
        Object[] args = new Object[m.getParameterCount()];
        for (int time = 0; time < 4; time++) {
            for (int i = 0; i < args.length; i++) {
                args[i] = random.nextInt(4) == 0 ? random.nextInt() : EDGES[random.nextInt(EDGES.length)];
            }
            int refused = x.status(0) + x.status(1);
            int due = refused;
            try {
                m.invoke(x, args);
            } catch (InvocationTargetException e) {
                Class<?> thrown = e.getCause().getClass();
                boolean named = Arrays.asList(m.getExceptionTypes()).contains(thrown);
                Checks.due(m.getName() + Arrays.toString(args) + " threw " + thrown, named ? 1 : 0, 1);
                due++;
            }
            Checks.due(m.getName() + Arrays.toString(args) + " counted", x.status(0) + x.status(1), due);
        }
    }
}
