import java.io.File;
import java.io.IOException;
import java.nio.file.Files;
import java.nio.file.Path;
import java.util.ArrayList;
import java.util.Comparator;
import java.util.List;
import java.util.Map;
import java.util.Set;
import java.util.TreeMap;
import java.util.TreeSet;
import java.util.concurrent.TimeUnit;
import java.util.regex.MatchResult;
import java.util.regex.Matcher;
import java.util.regex.Pattern;
import java.util.stream.Collectors;
import java.util.stream.Stream;

/** What README.md says is so: its commands are followed in a copy of the sources, its calls made, its tables looked up. */
public final class ReadmeTest {
    private static final Due due = new Due("ReadmeTest");
    private static final String ANSWERS = "BAD|NO|FULL|NONE|NOTHING|KIND|INDEX|SIZE";
    private static final int MOST_SECONDS = 120;

    private final String page = Files.readString(Path.of("README.md"));
    private final String document = Files.readString(Path.of("../shared/DOC.md"));
    private final Path copy = Files.createTempDirectory("readme");

    private ReadmeTest() throws IOException {
    }

    public static void main(String[] args) throws Exception {
        ReadmeTest test = new ReadmeTest();
        try {
            test.copySources();
            test.example();
            test.oneTestAlone();
            test.calls();
            test.face();
            test.answers();
            test.tests();
        } finally {
            test.removeCopy();
        }
        due.end();
    }

    // ---- what the page tells a reader to do

    private void copySources() throws IOException {
        try (Stream<Path> files = Files.walk(Path.of("src"))) {
            for (Path file : files.filter(Files::isRegularFile).collect(Collectors.toList())) {
                Files.createDirectories(copy.resolve(file).getParent());
                Files.copy(file, copy.resolve(file));
            }
        }
    }

    private void removeCopy() throws IOException {
        try (Stream<Path> files = Files.walk(copy)) {
            files.sorted(Comparator.reverseOrder()).map(Path::toFile).forEach(File::delete);
        }
    }

    private List<String> blocks(String section, String language) {
        Matcher part = Pattern.compile("(?s)\n## " + section + "\n(.*?)(?=\n## |$)").matcher(page);
        due.holds("there is a part: " + section, part.find());
        return Pattern.compile("(?s)```" + language + "\n(.*?)```").matcher(part.group(1)).results()
            .map(block -> block.group(1)).collect(Collectors.toList());
    }

    /** What the commands print, and their exit code behind it. */
    private String follow(String commands) throws Exception {
        Path printed = copy.resolve("printed");
        Process shell = new ProcessBuilder("sh", "-e", "-c", commands).directory(copy.toFile())
            .redirectErrorStream(true).redirectOutput(printed.toFile()).start();
        if (!shell.waitFor(MOST_SECONDS, TimeUnit.SECONDS)) {
            shell.destroyForcibly();
            return "goes on for more than " + MOST_SECONDS + " seconds";
        }
        return Files.readString(printed) + "exit code " + shell.exitValue();
    }

    private void example() throws Exception {
        due.promise("How to use it");
        List<String> code = blocks("How to use it", "java");
        List<String> commands = blocks("How to use it", "sh");
        List<String> printed = blocks("How to use it", "text");
        due.holds("one example, its commands, what it prints", code.size() == 1 && commands.size() == 1 && printed.size() == 1);
        Files.writeString(copy.resolve("Example.java"), code.get(0));
        String got = follow(commands.get(0));
        due.holds("the example prints what stands there, not: " + got, got.equals(printed.get(0) + "exit code 0"));
    }

    private void oneTestAlone() throws Exception {
        due.promise("How to run its tests");
        List<String> commands = blocks("How to run its tests", "sh");
        due.is("one block of commands", commands.size(), 1);
        String got = follow(commands.get(0));
        due.holds("one test alone runs, but: " + got, got.matches("(?s).*, 0 wrong\\s+exit code 0"));
        due.holds(".ci/run can be run", page.contains("\n    .ci/run\n") && Files.isExecutable(Path.of(".ci/run")));
    }

    /** Each line "x.call(..); // answer" becomes a call that is held against that answer. */
    private void calls() throws Exception {
        due.promise("The calls");
        StringBuilder code = new StringBuilder("public class Calls {\n    static void due(String call, int got, int want) {\n"
            + "        if (got != want) {\n            System.out.println(call + \" -> \" + got);\n        }\n    }\n"
            + "    public static void main(String[] args) {\n");
        int many = 0;
        for (String block : blocks("The calls", "java")) {
            code.append("{\n");
            for (String line : block.split("\n")) {
                Matcher call = Pattern.compile("(x\\.\\w+\\([^;]*\\));\\s+// (-?\\d+|" + ANSWERS + ")(: .*)?").matcher(line);
                boolean isCall = call.matches();
                due.holds("a new object, or a call and its answer: " + line, isCall || line.equals("NineSail x = new NineSail();"));
                if (isCall) {
                    String want = call.group(2).matches("-?\\d+") ? call.group(2) : "NineSail." + call.group(2);
                    line = "due(\"" + call.group(1) + "\", " + call.group(1) + ", " + want + ");";
                    many++;
                }
                code.append(line).append('\n');
            }
            code.append("}\n");
        }
        due.holds("there are calls", many > 0);
        Files.writeString(copy.resolve("Calls.java"), code.append("}\n}\n"));
        String got = follow("javac -d out src/main/java/NineSail.java Calls.java\njava -cp out Calls");
        due.holds("each call answers what stands behind it, but: " + got, got.equals("exit code 0"));
    }

    // ---- what the page tells of the document and of the tests

    private void face() {
        due.promise("The calls");
        Matcher face = Pattern.compile("public int (\\w+)\\(([^)]*)\\);").matcher(document);
        int many = 0;
        while (face.find()) {
            String call = "`" + face.group(1) + "(" + face.group(2).replace("int ", "") + ")`";
            due.holds("the page names " + call, page.contains(call));
            many++;
        }
        due.is("calls of the face", many, 41);
    }

    private void answers() {
        due.promise("What the answers mean");
        Map<String, Set<String>> named = new TreeMap<>();
        Matcher row = Pattern.compile("\n\\| (" + ANSWERS + ") \\| (-\\d+) \\| [^|]+ \\| ([^|]*) \\|").matcher(page);
        while (row.find()) {
            due.holds(row.group(1) + " is " + row.group(2), document.contains(row.group(1) + " = " + row.group(2)));
            named.put(row.group(1), Pattern.compile("\\w+").matcher(row.group(3)).results().map(MatchResult::group)
                .collect(Collectors.toCollection(TreeSet::new)));
        }
        due.is("answers that the page tells", named.size(), ANSWERS.split("\\|").length);
        Map<String, Set<String>> promised = answersOfPromises();
        for (String answer : ANSWERS.split("\\|")) {
            due.holds("calls that give " + answer + ": " + named.get(answer) + ", by the document " + promised.get(answer),
                promised.get(answer).equals(named.get(answer)));
        }
    }

    private Map<String, Set<String>> answersOfPromises() {
        Map<String, Set<String>> promised = new TreeMap<>();
        Matcher promise = Pattern.compile("## Promise \\d+: (\\w+)\n\n`[^`]*`: (.*)").matcher(document);
        while (promise.find()) {
            // What stands in brackets tells of arguments, not of answers.
            String words = promise.group(2).replaceAll("\\([^)]*\\)", "");
            Matcher answer = Pattern.compile("(?<=[.;] )(" + ANSWERS + ")(?=[.;:])").matcher(words);
            while (answer.find()) {
                promised.computeIfAbsent(answer.group(1), a -> new TreeSet<>()).add(promise.group(1));
            }
        }
        return promised;
    }

    private void tests() throws IOException {
        due.promise("How to run its tests");
        List<String> there = new ArrayList<>();
        try (Stream<Path> files = Files.list(Path.of("src/test/java"))) {
            files.map(f -> f.getFileName().toString()).filter(f -> f.endsWith("Test.java"))
                .forEach(f -> there.add(f.replace(".java", "")));
        }
        Set<String> named = Pattern.compile("\n\\| (\\w+Test) \\|").matcher(page).results().map(m -> m.group(1))
            .collect(Collectors.toCollection(TreeSet::new));
        due.holds("the tests that the page names are those that there are: " + there, named.equals(new TreeSet<>(there)));
    }
}
