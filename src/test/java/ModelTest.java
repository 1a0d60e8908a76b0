import java.lang.reflect.InvocationTargetException;
import java.lang.reflect.Method;
import java.lang.reflect.Modifier;
import java.util.ArrayList;
import java.util.Comparator;
import java.util.List;
import java.util.Random;

/** Runs of calls made by fixed seeds: ThroneBacks and the model must answer each of them alike. */
public final class ModelTest {
    private static final int RUNS = 1_500;
    private static final String[] READS = {"court", "law", "work", "book"};
    private static final String[] RARE = {"feed", "court", "law", "work", "book"};

    private final Random random;
    private final ThroneBacks real = new ThroneBacks();
    private final Model model = new Model();
    private final List<Method> asked = new ArrayList<>();
    private final StringBuilder log = new StringBuilder();
    private int calls;
    private boolean wrong;

    private ModelTest(long seed) {
        random = new Random(seed);
        for (Method m : ThroneBacks.class.getDeclaredMethods()) {
            if (Modifier.isPublic(m.getModifiers()) && !List.of(RARE).contains(m.getName())) {
                asked.add(m);
            }
        }
        asked.sort(Comparator.comparing(Method::getName));
    }

    public static void main(String[] args) throws Exception {
        int failed = 0;
        for (int i = 0; i < RUNS && failed < 3; i++) {
            ModelTest test = new ModelTest(7_000 + i);
            test.run();
            if (test.wrong) {
                failed++;
                System.out.println("run " + i + ":\n" + test.log);
            }
        }
        System.out.println(failed == 0 ? RUNS + " runs are as the model's" : "runs are not as the model's");
        if (failed != 0) {
            System.exit(1);
        }
    }

    private int pick(int n) {
        return random.nextInt(n);
    }

    private void run() throws Exception {
        text("court", courtText(), 600);
        while (calls < 505 && !wrong) {
            int kind = pick(100);
            if (kind < 1) {
                text("court", courtText(), 600);
            } else if (kind < 3) {
                text("law", lawText(), 150);
            } else if (kind < 15) {
                text("work", workText(), 150);
            } else if (kind < 19) {
                text("book", bookText(), 60);
            } else if (kind < 20) {
                call("feed", new Object[] {random.nextInt(), random.nextInt(), 0, 1, -1});
            } else if (kind < 21) {
                call(READS[pick(4)], new Object[] {pick(5) == 0 ? -1 : pick(200)});
            } else {
                Method m = asked.get(pick(asked.size()));
                call(m.getName(), arguments(m));
            }
        }
    }

    private void text(String reader, String whole, int most) throws Exception {
        String text = whole.length() > most && pick(4) != 0 ? whole.substring(0, most) : whole;
        log.append("  text \"").append(text).append("\"\n");
        for (int from = 0; from < text.length() || from == 0 && pick(2) == 0; from += 20) {
            Object[] numbers = new Object[5];
            for (int i = 0; i < 5; i++) {
                int number = 0;
                for (int j = 0; j < 4; j++) {
                    int at = from + 4 * i + j;
                    number = number << 8 | (at < text.length() ? text.charAt(at) : 0);
                }
                numbers[i] = number;
            }
            call("feed", numbers);
        }
        call(reader, new Object[] {text.length()});
        call("fault", new Object[0]);
    }

    private void call(String name, Object[] args) throws Exception {
        if (wrong) {
            return;
        }
        calls++;
        String a = outcome(real, ThroneBacks.class, name, args);
        String b = outcome(model, Model.class, name, args);
        log.append("  ").append(name).append(java.util.Arrays.toString(args)).append(" -> ").append(a).append('\n');
        if (!a.equals(b)) {
            log.append("  due is ").append(b).append('\n');
            wrong = true;
        }
    }

    private static String outcome(Object on, Class<?> type, String name, Object[] args) throws Exception {
        Class<?>[] kinds = new Class<?>[args.length];
        java.util.Arrays.fill(kinds, int.class);
        try {
            return type.getDeclaredMethod(name, kinds).invoke(on, args).toString();
        } catch (InvocationTargetException e) {
            return e.getCause().getClass().getName();
        }
    }

    private Object[] arguments(Method m) {
        int many = m.getParameterCount();
        Object[] args = new Object[many];
        for (int i = 0; i < many; i++) {
            args[i] = pick(60) == 0 ? (pick(2) == 0 ? -1 : random.nextInt()) : pick(pick(3) == 0 ? 14 : 4);
        }
        switch (m.getName()) {
            case "told" -> args[0] = pick(13);
            case "would" -> would(args);
            case "ahead" -> args[0] = pick(3) == 0 ? pick(102) : pick(8);
            case "roster" -> args[0] = councils();
            case "gives" -> args[1] = councils();
            case "ease" -> {
                args[0] = random.nextInt(1 << model.told(1));
                args[1] = pick(9) == 0 ? pick(12_000) : pick(400);
            }
            case "quorum" -> args[0] = pick(9) == 0 ? pick(700) : pick(250);
            case "lies" -> {
                args[0] = pick(14);
                args[1] = pick(15);
                args[2] = pick(18);
                args[3] = pick(20) == 0 ? 2 : pick(2);
            }
            case "kneel" -> {
                args[0] = pick(2) * pick(102);
                args[1] = pick(2) * pick(102);
            }
            case "balm" -> {
                args[1] = pick(9) == 0 ? pick(256) : random.nextInt(1 << model.told(0));
                args[2] = pick(9) == 0 ? pick(12_000) : pick(300);
            }
            case "lied" -> args[0] = pick(11);
            case "reign" -> {
                args[0] = random.nextInt();
                args[1] = pick(18);
                args[2] = pick(50);
            }
            case "span" -> {
                args[0] = random.nextInt();
                args[1] = pick(12);
                args[2] = pick(18);
                args[3] = pick(50);
            }
            default -> {
            }
        }
        return args;
    }

    private void would(Object[] args) {
        int[] most = {42, 42, 11, 11, 11, 1001, 14, 402, 8};
        for (int i = 0; i < most.length; i++) {
            args[i] = pick(12) == 0 ? pick(most[i]) : 1 + pick(most[i] - 2);
        }
    }

    private int councils() {
        int bits = random.nextInt(1 << model.told(1));
        while (Integer.bitCount(bits) > 5 && pick(9) != 0) {
            bits &= bits - 1;
        }
        return pick(30) == 0 ? bits | 1 << pick(13) : bits;
    }

    /** A text as it is, or with a byte changed, put in, left out, or cut off. */
    private String marred(String text) {
        if (pick(5) != 0 || text.isEmpty()) {
            return text;
        }
        String signs = " ;[](),+-*/%0123456789abcdefghijklmnopqrstuvwxyzA\u00e9\u0000";
        StringBuilder s = new StringBuilder(text);
        int at = pick(text.length());
        switch (pick(4)) {
            case 0 -> s.setCharAt(at, signs.charAt(pick(signs.length())));
            case 1 -> s.insert(at, signs.charAt(pick(signs.length())));
            case 2 -> s.deleteCharAt(at);
            default -> s.setLength(at);
        }
        return s.toString();
    }

    private String blanks(String text) {
        return pick(6) == 0 ? text.replace(";", pick(2) == 0 ? " ; " : ";  ") + (pick(2) == 0 ? " " : "") : text;
    }

    private int about(int least, int most) {
        return pick(80) == 0 ? most + 1 : least + pick(most - least + 1);
    }

    private String courtText() {
        StringBuilder s = new StringBuilder();
        int backs = pick(12) == 0 ? pick(9) : 1 + pick(7);
        int councils = pick(12) == 0 ? pick(14) : 1 + pick(12);
        boolean careful = pick(2) == 0;
        for (int i = 0; i < backs; i++) {
            s.append("back ").append(about(1, 99)).append(' ').append(careful ? 3 + about(0, 6) : about(0, 9)).append(';');
        }
        for (int i = 0; i < councils; i++) {
            s.append("council ").append(pick(3) == 0 ? about(1, 9) : 1 + pick(3)).append(' ').append(about(0, 9)).append(';');
        }
        for (int i = pick(3); i > 0; i--) {
            s.append("king ").append(about(1, 40)).append(';');
        }
        if (pick(30) == 0) {
            s.append("king 7;".repeat(40));
        }
        return marred(blanks(s.toString()));
    }

    private String lawText() {
        return marred(expression(pick(3) == 0 ? 7 : 3));
    }

    private String expression(int depth) {
        String[] things = {"weight", "held", "lie", "hours", "care", "tired", "knows", "day", "back"};
        int kind = depth == 0 ? pick(2) : pick(8);
        switch (kind) {
            case 0:
                return "" + (pick(2) == 0 ? pick(10) : about(0, 999));
            case 1:
            case 2:
                return things[pick(things.length)];
            case 3:
                return (pick(2) == 0 ? "least[" : "most [ ") + expression(depth - 1) + "," + expression(depth - 1) + "]";
            case 4:
                return "(" + expression(depth - 1) + ")";
            default:
                String[] signs = {"+", "-", " * ", "/", "%", " + ", " - "};
                return expression(depth - 1) + signs[pick(signs.length)] + expression(depth - 1);
        }
    }

    private String workText() {
        return marred(blanks(steps(pick(20) == 0 ? 7 : 2, 1 + pick(9))));
    }

    private int oneOf(int what) {
        int many = model.told(what);
        return pick(50) == 0 ? many : many == 0 ? 0 : pick(many);
    }

    private String steps(int depth, int many) {
        StringBuilder s = new StringBuilder();
        for (int i = 0; i < many; i++) {
            int kind = pick(20);
            if (kind < 8) {
                s.append("sit ").append(oneOf(0)).append(' ').append(oneOf(1));
            } else if (kind < 13) {
                s.append("tell ").append(oneOf(0)).append(' ').append(oneOf(0));
            } else if (kind < 14) {
                s.append("hold ").append(about(0, 40));
            } else if (kind < 16) {
                s.append("rest ").append(oneOf(0));
            } else if (kind < 18 || depth == 0) {
                s.append("day");
            } else {
                s.append("again ").append(pick(3) == 0 ? about(0, 40) : pick(4)).append('[');
                s.append(steps(depth - 1, depth > 3 ? 1 : pick(4))).append(']');
            }
            s.append(';');
        }
        return s.toString();
    }

    /** Most lines tell what one more council would make true, so that some pairs fit. */
    private String bookText() {
        StringBuilder s = new StringBuilder();
        int backs = model.told(0);
        int bearer = backs == 0 ? 0 : pick(backs);
        int councils = model.told(1);
        for (int b = 0; b < backs; b++) {
            if (pick(2) == 0) {
                continue;
            }
            int tired = model.back(b, 2);
            if (b == bearer && councils > 0 && pick(2) == 0) {
                tired += model.burden(b, pick(councils));
            }
            s.append(pick(30) == 0 ? oneOf(0) : b).append(' ').append(pick(20) == 0 ? about(0, 999) : tired).append(';');
        }
        return marred(blanks(s.toString()));
    }
}
