import java.io.IOException;
import java.nio.file.Files;
import java.nio.file.Path;
import java.util.ArrayList;
import java.util.LinkedHashMap;
import java.util.List;
import java.util.Map;
import java.util.regex.Matcher;
import java.util.regex.Pattern;

/** The document's sentences: each test names its promise and quotes the words that it holds the class to. */
final class Sentences {
    private static final Path DOCUMENT = Path.of("../shared/DOC.md");
    private static final int PROMISES = 41;

    private static final List<Integer> PROMISE_OF = new ArrayList<>();
    private static final List<String> WORDS_OF = new ArrayList<>();

    private Sentences() {
    }

    /** Runs a sentence's test; what is wrong in it is told with the promise's number and the sentence. */
    static void sentence(int promise, String words, Runnable test) {
        PROMISE_OF.add(promise);
        WORDS_OF.add(words);
        Checks.begin("promise " + promise + ", \"" + words + "\": ");
        if (System.getProperty("told") != null) {
            System.out.println("promise " + promise + ", \"" + words + "\": told");
        }
        int before = Checks.asked();
        try {
            test.run();
        } catch (RuntimeException | StackOverflowError e) {
            Checks.due("threw " + e, 1, 0);
        }
        Checks.due("asks nothing", Checks.asked() > before ? 1 : 0, 1);
        Checks.begin("");
    }

    /** Each quote stands in its promise or in the terms, and no word of the promises and terms is without a quote. */
    static void checkDocument() throws IOException {
        if (!Files.isReadable(DOCUMENT)) {
            System.out.println("no document at " + DOCUMENT + ": the quotes are not held against it");
            return;
        }
        Map<String, String> sections = sections(Files.readString(DOCUMENT));
        Map<String, boolean[]> quoted = new LinkedHashMap<>();
        sections.forEach((name, text) -> quoted.put(name, new boolean[text.length()]));
        for (int i = 0; i < WORDS_OF.size(); i++) {
            String promise = "Promise " + PROMISE_OF.get(i);
            String words = WORDS_OF.get(i);
            boolean stands = mark(sections, quoted, promise, words) | mark(sections, quoted, "Terms", words);
            Checks.due("stands in the document: " + promise + ", \"" + words + "\"", stands ? 1 : 0, 1);
        }
        for (int promise = 1; promise <= PROMISES; promise++) {
            Checks.due("has a sentence: promise " + promise, PROMISE_OF.contains(promise) ? 1 : 0, 1);
        }
        sections.forEach((name, text) -> {
            String left = unquoted(text, quoted.get(name));
            Checks.due("without a test, " + name + ": " + left, left.isEmpty() ? 1 : 0, 1);
        });
    }

    private static Map<String, String> sections(String document) {
        Map<String, String> sections = new LinkedHashMap<>();
        Matcher m = Pattern.compile("(?s)\n## (Terms|Promise \\d+)([^\n]*)\n(.*?)(?=\n## |$)").matcher(document);
        while (m.find()) {
            sections.put(m.group(1), plain(m.group(3)));
        }
        return sections;
    }

    /** Without fences, signatures and the document's own numbers, and each run of blanks and line ends as one blank. */
    private static String plain(String text) {
        return text.replaceAll("```\\w*", " ").replaceAll("`[^`]*`:", " ").replaceAll("==== \\d\\.", " ")
            .replaceAll("\\s+", " ");
    }

    private static boolean mark(Map<String, String> sections, Map<String, boolean[]> quoted, String name, String words) {
        String text = sections.getOrDefault(name, "");
        boolean stands = false;
        for (int at = text.indexOf(words); at >= 0; at = text.indexOf(words, at + 1)) {
            stands = true;
            java.util.Arrays.fill(quoted.get(name), at, at + words.length(), true);
        }
        return stands;
    }

    private static String unquoted(String text, boolean[] quoted) {
        StringBuilder left = new StringBuilder();
        for (int i = 0; i < text.length(); i++) {
            left.append(quoted[i] ? '|' : text.charAt(i));
        }
        return left.toString().replaceAll("\\|+", "|").replaceAll("[^A-Za-z0-9]*\\|[^A-Za-z0-9]*", "|").replaceAll("^\\||\\|$|\\|(?=\\|)", "");
    }
}
