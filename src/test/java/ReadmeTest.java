import java.io.IOException;
import java.nio.file.Files;
import java.nio.file.Path;
import java.util.ArrayList;
import java.util.List;
import java.util.regex.Matcher;
import java.util.regex.Pattern;
import javax.tools.JavaCompiler;
import javax.tools.ToolProvider;

/** What README.md shows as Java compiles, and each call there with an answer behind it answers so. */
public final class ReadmeTest {
    private static final Pattern BLOCK = Pattern.compile("(?s)```java\n(.*?)```");
    private static final Pattern ANSWERED = Pattern.compile("(x\\..*);\\s+// (-?\\d+): .*");
    private static final int FEWEST_ANSWERS = 20;

    public static void main(String[] args) throws Exception {
        List<String> blocks = new ArrayList<>();
        Matcher m = BLOCK.matcher(Files.readString(Path.of("README.md")));
        while (m.find()) {
            blocks.add(m.group(1));
        }
        Checks.due("blocks of Java", blocks.size(), 2);
        if (blocks.size() == 2) {
            run(program(blocks.get(0), blocks.get(1)));
            Checks.due("answers are told", Math.min(FEWEST_ANSWERS, Checks.asked()), FEWEST_ANSWERS);
        }
        Checks.due("each call is named", unnamed(), 0);
        Checks.finish();
    }

    /** The second block as a method, in which each call with an answer behind it hands over both. */
    private static String program(String helper, String session) {
        StringBuilder body = new StringBuilder();
        for (String line : session.split("\n")) {
            Matcher m = ANSWERED.matcher(line.trim());
            if (m.matches()) {
                String name = m.group(1).replace("\\", "\\\\").replace("\"", "\\\"");
                body.append("seen.answer(\"").append(name).append("\", ").append(m.group(1)).append(", ");
                body.append(m.group(2)).append(");\n");
            } else {
                body.append(line).append('\n');
            }
        }
        return "public final class Shown {\npublic interface Seen { void answer(String call, long got, long want); }\n"
            + helper + "public static void run(Seen seen) {\n" + body + "}\n}\n";
    }

    private static void run(String program) throws Exception {
        Path folder = Files.createTempDirectory("shown");
        Path source = folder.resolve("Shown.java");
        Files.writeString(source, program);
        JavaCompiler compiler = ToolProvider.getSystemJavaCompiler();
        String classes = System.getProperty("java.class.path");
        int failed = compiler.run(null, null, null, "-cp", classes, "-d", folder.toString(), source.toString());
        Checks.due("README's Java compiles", failed, 0);
        if (failed == 0) {
            call(folder);
        }
        for (String name : new String[] {"Shown.java", "Shown.class", "Shown$Seen.class"}) {
            Files.deleteIfExists(folder.resolve(name));
        }
        Files.delete(folder);
    }

    private static void call(Path folder) throws Exception {
        java.net.URL[] urls = {folder.toUri().toURL()};
        try (java.net.URLClassLoader loader = new java.net.URLClassLoader(urls)) {
            Class<?> seen = loader.loadClass("Shown$Seen");
            Object answers = java.lang.reflect.Proxy.newProxyInstance(loader, new Class<?>[] {seen}, (proxy, method, of) -> {
                Checks.due("README: " + of[0], (long) of[1], (long) of[2]);
                return null;
            });
            loader.loadClass("Shown").getMethod("run", seen).invoke(null, answers);
        }
    }

    private static int unnamed() throws IOException {
        String page = Files.readString(Path.of("README.md"));
        int missing = 0;
        for (java.lang.reflect.Method m : ThroneBacks.class.getDeclaredMethods()) {
            boolean open = java.lang.reflect.Modifier.isPublic(m.getModifiers());
            if (open && !page.contains("`" + m.getName() + "`")) {
                System.out.println("README.md does not name " + m.getName());
                missing++;
            }
        }
        return missing;
    }
}
