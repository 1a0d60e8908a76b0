import java.io.IOException;
import java.nio.file.Files;
import java.nio.file.Path;
import java.util.List;
import java.util.regex.Matcher;
import java.util.regex.Pattern;

/** What of LANGUAGE.md can be seen by reading the source: words that may not stand there, lengths, what is made where. */
public final class RulesTest {
    private static final Path SOURCE = Path.of("src/main/java/ThroneBacks.java");
    private static final String[] FORBIDDEN = {"->", "::", "\\btry\\b", "\\bcatch\\b", "\\bfinally\\b", "\\bassert\\b",
        "\\bsynchronized\\b", "\\bdouble\\b", "\\bfloat\\b", "Exact\\b", "\\bpackage\\b", "\\bprotected\\b", "\\brecord\\b",
        "\\bsealed\\b", "\\bvar\\b", "\\byield\\b", "\\bSystem\\.(?!arraycopy)", "\\bMath\\.(?!min|max)", "\\bArrays\\.(?!fill)",
        "\\bInteger\\.(?!bitCount)", "\\bLong\\.", "\\bObject\\b", "\\binstanceof\\b", "while \\(true\\)", "for \\(;;\\)",
        "java\\.util\\.(?!Arrays;|NoSuchElementException;)", "\" \\+", "\\+ \"", "[^\\x00-\\x7f]", "\\t"};
    private static final int MOST_LINES = 60;

    public static void main(String[] args) throws IOException {
        String source = Files.readString(SOURCE);
        String code = source.replaceAll("(?s)/\\*.*?\\*/", "").replaceAll("//[^\n]*", "");
        for (String word : FORBIDDEN) {
            Matcher m = Pattern.compile(word).matcher(code);
            Checks.due("may not stand there: " + word, m.find() ? 1 : 0, 0);
        }
        checkStatic(code);
        checkThrows(code);
        checkLengths(code.lines().toList());
        checkMade(code.lines().toList());
        Checks.finish();
    }

    private static void checkStatic(String code) {
        Matcher m = Pattern.compile("\\bstatic\\b(?! final (int|class) )(?! (int|long|boolean) \\w+\\()[^\n]*").matcher(code);
        Checks.due("static: " + (m.find() ? m.group() : ""), m.reset().find() ? 1 : 0, 0);
    }

    private static void checkThrows(String code) {
        Matcher m = Pattern.compile("throw [^\n]*").matcher(code);
        while (m.find()) {
            boolean plain = m.group().matches("throw new (NoSuchElement|IllegalArgument)Exception\\(\"[^\"]*\"\\);");
            Checks.due(m.group(), plain ? 1 : 0, 1);
        }
    }

    /** A method begins at a line that ends with an opening brace and has no word of a statement, and ends by its depth. */
    private static void checkLengths(List<String> lines) {
        for (int i = 0; i < lines.size(); i++) {
            String line = lines.get(i);
            if (!line.matches("\\s+(public |private |static |int |long |boolean |void |[A-Z])[^=;]*\\)[^=;]*\\{")) {
                continue;
            }
            String end = line.replaceAll("\\S.*", "") + "}";
            int j = i;
            while (j < lines.size() && !lines.get(j).equals(end)) {
                j++;
            }
            Checks.due("lines of " + line.trim(), Math.max(MOST_LINES, j - i), MOST_LINES);
        }
    }

    /** Everything is made once, by a field or a constructor, so that no call makes anything but an exception. */
    private static void checkMade(List<String> lines) {
        for (String line : lines) {
            boolean field = line.matches("\\s+private (static )?final .*");
            boolean thrown = line.contains("throw new");
            boolean inPast = line.trim().equals("before[i] = new State();");
            Checks.due("made in a call: " + line, !line.contains("new ") || field || thrown || inPast ? 1 : 0, 1);
        }
    }
}
