import java.lang.reflect.Constructor;
import java.lang.reflect.Field;
import java.lang.reflect.Method;
import java.lang.reflect.Modifier;
import java.nio.file.Files;
import java.nio.file.Path;
import java.util.Arrays;
import java.util.HashSet;
import java.util.List;
import java.util.Set;
import java.util.TreeSet;
import java.util.regex.Matcher;
import java.util.regex.Pattern;

/** The face of the document, and the rules of LANGUAGE.md that can be seen from the source and the compiled class. */
public final class LanguageTest {
    private static final Due due = new Due("LanguageTest");
    private static final Path SOURCE = Path.of("src/main/java/NineSail.java");
    private static final String[] FACE = {"as 2", "ask 2", "back 0", "behind 2", "bestLaw 2", "boat 3", "check 1",
        "copy 5", "count 1", "cutOff 1", "deal 1", "fee 0", "feed 3", "fine 1", "fleet 1", "hands 1", "home 0",
        "hours 1", "item 2", "keep 0", "lay 3", "mark 3", "pour 1", "reads 1", "rest 2", "rule 2", "seed 1", "set 3",
        "sheet 3", "speed 0", "tell 1", "text 0", "textTold 2", "ties 2", "told 2", "trim 1", "turned 2", "turns 2",
        "whose 3", "why 1", "wishes 2"};
    private static final String[] CONSTANTS = {"BAD -1000000001", "NO -1000000002", "FULL -1000000003",
        "NONE -1000000005", "NOTHING -1000000011", "KIND -1000000012", "INDEX -1000000013", "SIZE -1000000014"};

    public static void main(String[] args) throws Exception {
        face();
        constants();
        classesInside();
        String code = withoutTexts(Files.readString(SOURCE));
        words(code);
        libraryCalls(code);
        lengths();
        due.end();
    }

    private static boolean isFace(int modifiers) {
        return !Modifier.isPrivate(modifiers);
    }

    private static void face() {
        due.promise("rule 1");
        int modifiers = NineSail.class.getModifiers();
        due.holds("public and final", Modifier.isPublic(modifiers) && Modifier.isFinal(modifiers));
        Set<String> seen = new TreeSet<>();
        for (Method m : NineSail.class.getDeclaredMethods()) {
            if (isFace(m.getModifiers())) {
                seen.add(m.getName() + " " + m.getParameterCount());
                boolean ints = m.getReturnType() == int.class
                    && Arrays.stream(m.getParameterTypes()).allMatch(t -> t == int.class);
                due.holds(m.getName() + " is public, of ints", Modifier.isPublic(m.getModifiers()) && ints
                    && !Modifier.isStatic(m.getModifiers()));
            }
        }
        due.holds("the methods of the document: " + seen, seen.equals(new TreeSet<>(List.of(FACE))));
        Constructor<?>[] made = NineSail.class.getDeclaredConstructors();
        due.holds("one public constructor", made.length == 1 && made[0].getParameterCount() == 0
            && Modifier.isPublic(made[0].getModifiers()));
    }

    private static void constants() throws Exception {
        due.promise("rule 1");
        Set<String> seen = new TreeSet<>();
        for (Field f : NineSail.class.getDeclaredFields()) {
            if (isFace(f.getModifiers())) {
                due.holds(f.getName() + " is public static final int", f.getType() == int.class
                    && f.getModifiers() == (Modifier.PUBLIC | Modifier.STATIC | Modifier.FINAL));
                seen.add(f.getName() + " " + f.getInt(null));
            }
        }
        due.holds("the constants of the document: " + seen, seen.equals(new TreeSet<>(List.of(CONSTANTS))));
    }

    private static void classesInside() {
        due.promise("rules 1, 2, 5, 11");
        Set<String> faceNames = new HashSet<>();
        for (String f : FACE) {
            faceNames.add(f.split(" ")[0]);
        }
        Class<?>[] inside = NineSail.class.getDeclaredClasses();
        due.holds("some twelve classes", inside.length + 1 <= 12);
        for (Class<?> c : inside) {
            due.holds(c + " is static, not public", Modifier.isStatic(c.getModifiers())
                && !Modifier.isPublic(c.getModifiers()) && !Modifier.isProtected(c.getModifiers()));
            for (Method m : c.getDeclaredMethods()) {
                due.holds(m + " bears no name of the face", !faceNames.contains(m.getName()));
            }
            membersOf(c);
        }
        for (Method m : NineSail.class.getDeclaredMethods()) {
            due.holds(m + " bears no name of the face",
                isFace(m.getModifiers()) || !faceNames.contains(m.getName()));
        }
        membersOf(NineSail.class);
    }

    private static void membersOf(Class<?> c) {
        int fields = 0;
        for (Field f : c.getDeclaredFields()) {
            boolean isStatic = Modifier.isStatic(f.getModifiers());
            fields += isStatic ? 0 : 1;
            due.holds(f + " is final if static", !isStatic || Modifier.isFinal(f.getModifiers())
                && Set.of(int.class, long.class, boolean.class, char.class, String.class, int[].class, long[].class,
                    char[].class, byte[].class).contains(f.getType()));
        }
        due.holds(c + " has at most twenty fields", fields <= 20);
        for (Method m : c.getDeclaredMethods()) {
            due.holds(m + " has at most seven parameters", m.getParameterCount() <= 7);
        }
    }

    /** The source with comments, strings and chars taken out. */
    private static String withoutTexts(String source) {
        return source.replaceAll("(?s)/\\*.*?\\*/", " ").replaceAll("//[^\n]*", " ")
            .replaceAll("\"(\\\\.|[^\"\\\\])*\"", "\"\"").replaceAll("'(\\\\.|[^'\\\\])'", "0");
    }

    private static void words(String code) {
        due.promise("rules 2, 3, 5, 6");
        String[] words = {"throw", "throws", "try", "catch", "finally", "synchronized", "assert", "volatile", "native",
            "hashCode", "toString", "Object", "Thread", "Runtime", "double", "var", "yield", "record", "instanceof"};
        for (String w : words) {
            due.holds("no word " + w, !Pattern.compile("\\b" + w + "\\b").matcher(code).find());
        }
        String[] signs = {"->", "::", "Exact", "static {", "package ", "NaN", "System.nano", "System.current", "System.out"};
        for (String s : signs) {
            due.holds("no " + s, !code.contains(s));
        }
        Matcher imports = Pattern.compile("import\\s+([\\w.*]+);").matcher(code);
        while (imports.find()) {
            due.holds("import of " + imports.group(1), imports.group(1).equals("java.util.Arrays"));
        }
        due.holds("signs 1 to 127 alone", code.chars().allMatch(c -> c > 0 && c < 128));
    }

    private static void libraryCalls(String code) {
        due.promise("rule 4");
        Set<String> allowed = Set.of("Math.max", "Math.min", "Math.abs", "Arrays.fill", "Arrays.copyOf",
            "System.arraycopy");
        Matcher calls = Pattern.compile("\\b(Math|Arrays|System|Integer|Long|List|String)\\.(\\w+)").matcher(code);
        while (calls.find()) {
            due.holds(calls.group() + " is of the list", allowed.contains(calls.group()));
        }
    }

    private static void lengths() throws Exception {
        due.promise("rule 11");
        int from = -1;
        List<String> lines = Files.readAllLines(SOURCE);
        for (int i = 0; i < lines.size(); i++) {
            String line = lines.get(i);
            if (line.matches("(    |        )(public |private |static |final )*[\\w\\[\\]]+ ?\\w*\\(.*\\) \\{")) {
                from = i;
            }
            if (from >= 0 && line.matches("(    |        )\\}")) {
                due.holds("the method of line " + (from + 1) + " is short", i - from < 60);
                from = -1;
            }
        }
    }
}
