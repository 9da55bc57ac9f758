import java.lang.reflect.Method;
import java.nio.file.Files;
import java.nio.file.Path;
import java.util.LinkedHashMap;
import java.util.Map;
import java.util.regex.Matcher;
import java.util.regex.Pattern;

/** The sentences that the tests name stand in the document, and no words of its Terms and promises go without a test. */
public final class SentencesTest {
    private static final Due due = new Due("SentencesTest");
    private static final Path DOCUMENT = Path.of("../shared/DOC.md");
    private static final Path TESTS = Path.of("src/test/java");
    private static final Class<?>[] EDGES = {EdgesBoatsTest.class, EdgesHoursTest.class, EdgesThoughtTest.class,
        EdgesTextsTest.class, EdgesSheetsTest.class, EdgesRowsTest.class};
    private static final int PROMISES = 42;

    public static void main(String[] args) throws Exception {
        due.promise("sentences");
        Map<String, String> parts = parts(Files.readString(DOCUMENT).replaceAll("\\s+", " "));
        Map<String, boolean[]> named = new LinkedHashMap<>();
        parts.forEach((of, text) -> named.put(of, new boolean[text.length()]));
        for (Class<?> c : EDGES) {
            for (Method m : Edges.testsOf(c)) {
                name(parts, named, m.getAnnotation(Sentence.class), c.getSimpleName() + "." + m.getName());
            }
        }
        parts.forEach((of, text) -> nothingLeft(of, text, named.get(of)));
        long files;
        try (var listed = Files.list(TESTS)) {
            files = listed.filter(p -> p.getFileName().toString().matches("Edges\\w+Test\\.java")).count();
        }
        due.is("the tests of sentences that are looked at", EDGES.length, files);
        due.end();
    }

    /** How often an object is used, Terms, its five sections, and the promises without their headings and signatures. */
    private static Map<String, String> parts(String document) {
        Map<String, String> parts = new LinkedHashMap<>();
        parts.put("What it is", between(document, "gone on from.", "what later calls answer is free."));
        parts.put("Terms", between(document, "## Terms", "======== 1"));
        for (int i = 1; i <= 4; i++) {
            parts.put("Terms " + i, between(document, "======== " + i, "======== " + (i + 1)));
        }
        parts.put("Terms 5", between(document, "======== 5", "Ahead of the calls"));
        Matcher m = Pattern.compile("## Promise (\\d+): [\\w ]+ `[^`]*`: (.*?)(?= ## )").matcher(document);
        while (m.find()) {
            parts.put("Promise " + m.group(1), m.group(2));
        }
        due.is("parts of the document", parts.size(), 7 + PROMISES);
        return parts;
    }

    private static String between(String document, String from, String to) {
        int begin = document.indexOf(from) + from.length();
        return document.substring(begin, document.indexOf(to, begin)).replace("```text", " ").replace("```", " ")
            .replaceAll("\\s+", " ");
    }

    private static void name(Map<String, String> parts, Map<String, boolean[]> named, Sentence s, String test) {
        String text = parts.getOrDefault(s.of(), "");
        int at = text.indexOf(s.words());
        due.holds(test + ": \"" + s.words() + "\" stands in " + s.of(), at >= 0);
        for (; at >= 0; at = text.indexOf(s.words(), at + 1)) {
            for (int i = at; i < at + s.words().length(); i++) {
                named.get(s.of())[i] = true;
            }
        }
    }

    private static void nothingLeft(String of, String text, boolean[] named) {
        StringBuilder left = new StringBuilder();
        for (int i = 0; i < text.length(); i++) {
            left.append(named[i] ? '_' : text.charAt(i));
        }
        String words = left.toString().replaceAll("_+", " .. ");
        due.holds("all of " + of + " is named by tests, but: " + words, !words.matches(".*\\w.*"));
    }
}
