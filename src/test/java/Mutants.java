import java.io.ByteArrayOutputStream;
import java.io.IOException;
import java.io.OutputStream;
import java.io.PrintStream;
import java.lang.reflect.Method;
import java.net.URI;
import java.nio.file.Files;
import java.nio.file.Path;
import java.util.ArrayList;
import java.util.Arrays;
import java.util.HashMap;
import java.util.List;
import java.util.Map;
import java.util.Set;
import java.util.TreeSet;
import java.util.regex.Matcher;
import java.util.regex.Pattern;
import javax.tools.DiagnosticCollector;
import javax.tools.FileObject;
import javax.tools.ForwardingJavaFileManager;
import javax.tools.JavaCompiler;
import javax.tools.JavaFileManager;
import javax.tools.JavaFileObject;
import javax.tools.SimpleJavaFileObject;
import javax.tools.StandardLocation;
import javax.tools.ToolProvider;

/**
 * Breaks the class in one place at a time and looks whether a test of a sentence notices; run by hand, see README.md.
 * What no test notices is printed: either a test is wanting, or that change breaks nothing the document promises.
 */
public final class Mutants {
    private static final Path SOURCE = Path.of("src/main/java/NineSail.java");
    private static final String[] TESTS = {"EdgesBoatsTest", "EdgesHoursTest", "EdgesThoughtTest", "EdgesTextsTest",
        "EdgesSheetsTest", "EdgesRowsTest"};
    private static final long MOST_MILLIS = 20000;

    private final String source;
    private final Path classes;
    /** Where the source is code, and not a comment or a text. */
    private final boolean[] code;
    private final List<String[]> mutants = new ArrayList<>();

    private Mutants(String source, Path classes) {
        this.source = source;
        this.classes = classes;
        code = codeOf(source);
    }

    /** The directory of the compiled tests; if the work is shared, which share of how many; "all" for what each test notices. */
    public static void main(String[] args) throws Exception {
        Mutants m = new Mutants(Files.readString(SOURCE), Path.of(args[0]));
        int share = args.length > 1 ? Integer.parseInt(args[1]) : 0;
        int shares = args.length > 2 ? Integer.parseInt(args[2]) : 1;
        boolean all = args.length > 3;
        m.make();
        PrintStream out = System.out;
        System.setOut(new PrintStream(OutputStream.nullOutputStream()));
        int broken = 0;
        int unnoticed = 0;
        for (int i = share; i < m.mutants.size(); i += shares) {
            String[] mutant = m.mutants.get(i);
            Map<String, byte[]> compiled = compile(mutant[1]);
            if (compiled != null) {
                broken++;
                Set<String> noticing = m.noticing(compiled, all);
                if (noticing.isEmpty()) {
                    unnoticed++;
                    out.println("unnoticed: " + mutant[0]);
                }
                if (all) {
                    noticing.forEach(test -> out.println("noticed by: " + test + " <- " + mutant[0]));
                }
            }
        }
        out.println(broken + " broken ones, " + unnoticed + " unnoticed");
        System.exit(0);
    }

    // ---- how the source is broken

    private static boolean[] codeOf(String source) {
        boolean[] code = new boolean[source.length()];
        Arrays.fill(code, true);
        Matcher m = Pattern.compile("(?s)/\\*.*?\\*/|//[^\n]*|\"(\\\\.|[^\"\\\\])*\"|import [^;]*;|@Override|public static final int[^;]*;")
            .matcher(source);
        while (m.find()) {
            Arrays.fill(code, m.start(), m.end(), false);
        }
        return code;
    }

    private void make() {
        String[][] signs = {
            {"(?<![<\\-=])<(?![<=])", "<="}, {"<=", "<"}, {"(?<![>\\-])>(?![>=])", ">="}, {"(?<!>)>=", ">"},
            {"(?<![<>])(?<![<>])<(?![<=])", ">"}, {"==", "!="}, {"!=", "=="}, {"&&", "||"}, {"\\|\\|", "&&"},
            {" \\+ ", " - "}, {" - ", " + "}, {" \\* ", " + "}, {" / ", " * "}, {" % ", " / "}, {" \\+= ", " -= "}, {" \\|= ", " &= "},
            {"\\+\\+(?=;)", "--"}, {"(?<=[(&| =])!(?=[a-z])", ""}, {"\\btrue\\b", "false"}, {"\\bfalse\\b", "true"},
            {"Math\\.max", "Math.min"}, {"Math\\.min", "Math.max"}, {">>>", ">>"},
            {"\\bLETTERS\\b", "DIGITS"}, {"\\bDIGITS\\b", "LETTERS"}, {"\\bSHORTS\\b", "FLOATS"}, {"\\bFLOATS\\b", "SHORTS"}};
        for (String[] s : signs) {
            replaceEach(s[0], s[1]);
        }
        for (String answer : new String[] {"BAD", "NO", "FULL", "NONE", "NOTHING", "KIND", "INDEX", "SIZE"}) {
            replaceEach("(?<=(return|\\?|:) )" + answer + "(?=;| :)", answer.equals("BAD") ? "NO" : "BAD");
        }
        numbers();
        statements();
        refusalsSwapped();
        refusalsThatChange();
        partsOfConditions();
    }

    private void replaceEach(String pattern, String with) {
        Matcher m = Pattern.compile(pattern).matcher(source);
        while (m.find()) {
            add(m.start(), m.end(), with);
        }
    }

    private void numbers() {
        Matcher m = Pattern.compile("(?<![\\w.])\\d+(?!\\w)").matcher(source);
        while (m.find()) {
            long v = Long.parseLong(m.group());
            add(m.start(), m.end(), String.valueOf(v + 1));
            add(m.start(), m.end(), v == 0 ? "(-1)" : String.valueOf(v - 1));
        }
    }

    private void statements() {
        Matcher m = Pattern.compile("(?m)^ +(?!return|final|private|public|static|int |boolean |case|default|package|import)"
            + "[a-z][^;\n{}]*;$").matcher(source);
        while (m.find()) {
            add(m.start(), m.end(), ";");
        }
    }

    private void refusalsSwapped() {
        String block = "        if \\([^{}]*\\) \\{\n            return [^{}]*;\n        \\}\n";
        Matcher m = Pattern.compile("(?=(" + block + ")((?:        (?:Boat|Sheet|int)[^{}\n]*;\n)*)(" + block + "))").matcher(source);
        while (m.find()) {
            add(m.start(1), m.end(3), m.group(2) + m.group(3) + m.group(1));
        }
    }

    /** A call that is refused does something all the same. */
    private void refusalsThatChange() {
        String[] changes = {"sea.since++", "sea.z++", "tape.length = 0", "waitingCount = 0", "slotThings[0] = 0",
            "sheets[0].lose()", "image.become(sea)", "sea.boats[0].tied = !sea.boats[0].tied"};
        Matcher m = Pattern.compile("return (BAD|NO|FULL|NONE|NOTHING|KIND|INDEX|SIZE);").matcher(source);
        while (m.find() && m.start() < source.indexOf("// ---- what arguments may be")) {
            for (String change : changes) {
                add(m.start(), m.end(), "{ " + change + "; " + m.group() + " }");
            }
        }
    }

    /** Each side of && and || left out, as far as it is a plain comparison or call. */
    private void partsOfConditions() {
        String part = "!?[\\w.\\[\\]]+(\\([\\w., \\-\\[\\]]*\\))?( (<|>|<=|>=|==|!=) [\\w.\\-\\[\\]']+(\\([\\w., ]*\\))?( [+\\-] \\w+)?)?";
        Matcher m = Pattern.compile("(?<=\\(| |!)" + part + " (&&|\\|\\|) ").matcher(source);
        while (m.find()) {
            add(m.start(), m.end(), "");
        }
        Matcher n = Pattern.compile(" (&&|\\|\\|) " + part + "(?=\\)|;| \\?)").matcher(source);
        while (n.find()) {
            add(n.start(), n.end(), "");
        }
    }

    private void add(int from, int to, String with) {
        if (!code[from]) {
            return;
        }
        int line = 1;
        for (int i = 0; i < from; i++) {
            line += source.charAt(i) == '\n' ? 1 : 0;
        }
        int begin = source.lastIndexOf('\n', from) + 1;
        int end = source.indexOf('\n', to);
        String was = source.substring(begin, end).strip();
        String is = (source.substring(begin, from) + "[" + with + "]" + source.substring(to, end)).strip();
        mutants.add(new String[] {"line " + line + ": " + was + "  ->  " + is,
            source.substring(0, from) + with + source.substring(to)});
    }

    // ---- how it is compiled and tested

    private static final class Kept extends ForwardingJavaFileManager<JavaFileManager> {
        final Map<String, ByteArrayOutputStream> out = new HashMap<>();

        Kept(JavaFileManager manager) {
            super(manager);
        }

        @Override
        public JavaFileObject getJavaFileForOutput(Location l, String name, JavaFileObject.Kind kind, FileObject sibling) {
            return new SimpleJavaFileObject(URI.create("mem:///" + name + ".class"), kind) {
                @Override
                public OutputStream openOutputStream() {
                    ByteArrayOutputStream bytes = new ByteArrayOutputStream();
                    out.put(name, bytes);
                    return bytes;
                }
            };
        }

        @Override
        public Iterable<JavaFileObject> list(Location l, String name, Set<JavaFileObject.Kind> kinds, boolean recurse)
            throws IOException {
            return l == StandardLocation.CLASS_PATH ? List.of() : super.list(l, name, kinds, recurse);
        }
    }

    private static final JavaCompiler COMPILER = ToolProvider.getSystemJavaCompiler();

    private static Map<String, byte[]> compile(String text) {
        DiagnosticCollector<JavaFileObject> faults = new DiagnosticCollector<>();
        Kept kept = new Kept(COMPILER.getStandardFileManager(faults, null, null));
        JavaFileObject file = new SimpleJavaFileObject(URI.create("mem:///NineSail.java"), JavaFileObject.Kind.SOURCE) {
            @Override
            public CharSequence getCharContent(boolean ignore) {
                return text;
            }
        };
        if (!COMPILER.getTask(null, kept, faults, List.of("-proc:none"), null, List.of(file)).call()) {
            return null;
        }
        Map<String, byte[]> compiled = new HashMap<>();
        kept.out.forEach((name, bytes) -> compiled.put(name, bytes.toByteArray()));
        return compiled;
    }

    /** A world of its own: the broken class and the tests, loaded anew. */
    private final class World extends ClassLoader {
        private final Map<String, byte[]> broken;

        World(Map<String, byte[]> broken) {
            super(ClassLoader.getPlatformClassLoader());
            this.broken = broken;
        }

        @Override
        protected Class<?> findClass(String name) throws ClassNotFoundException {
            try {
                byte[] b = name.startsWith("NineSail") ? broken.get(name) : Files.readAllBytes(classes.resolve(name + ".class"));
                if (b == null) {
                    throw new ClassNotFoundException(name);
                }
                return defineClass(name, b, 0, b.length);
            } catch (IOException e) {
                throw new ClassNotFoundException(name, e);
            }
        }
    }

    /** The tests that notice; one that comes to no end is noticed, too. */
    @SuppressWarnings("deprecation")
    private Set<String> noticing(Map<String, byte[]> compiled, boolean all) throws Exception {
        Set<String> noticing = new TreeSet<>();
        Thread t = new Thread(() -> testIn(new World(compiled), noticing, all));
        t.setDaemon(true);
        t.start();
        t.join(MOST_MILLIS);
        if (t.isAlive()) {
            t.stop();
            return Set.of("no end");
        }
        return noticing;
    }

    private static void testIn(World world, Set<String> noticing, boolean all) {
        try {
            Method run = world.loadClass("Edges").getDeclaredMethod("noticing", Class.class, boolean.class);
            run.setAccessible(true);
            for (String test : TESTS) {
                if (all || noticing.isEmpty()) {
                    for (Object name : (Set<?>) run.invoke(null, world.loadClass(test), all)) {
                        noticing.add((String) name);
                    }
                }
            }
        } catch (ReflectiveOperationException | LinkageError e) {
            noticing.add("it can't be tested: " + e);
        }
    }
}
