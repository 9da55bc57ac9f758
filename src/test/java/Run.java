import java.lang.reflect.InvocationTargetException;
import java.lang.reflect.Method;
import java.util.Arrays;
import java.util.HashMap;
import java.util.Map;
import java.util.stream.Collectors;

/** A new object and the calls that are made on it, by name; beyond 512 of them the document promises nothing. */
final class Run {
    private static final int MOST_CALLS = 512;
    private static final Map<String, Method> FACE = new HashMap<>();

    static {
        for (Method m : NineSail.class.getMethods()) {
            if (m.getDeclaringClass() == NineSail.class) {
                FACE.put(m.getName(), m);
            }
        }
    }

    private final Due due;
    private final NineSail x = new NineSail();
    private int calls;

    Run(Due due) {
        this.due = due;
    }

    int ask(String name, int... a) {
        calls++;
        if (calls > MOST_CALLS) {
            throw new IllegalStateException("the test itself makes more than 512 calls");
        }
        try {
            return (Integer) FACE.get(name).invoke(x, Arrays.stream(a).boxed().toArray());
        } catch (InvocationTargetException e) {
            due.holds(call(name, a) + " throws nothing, but: " + e.getCause(), false);
            return 0;
        } catch (IllegalAccessException e) {
            throw new IllegalStateException(e);
        }
    }

    /** A call whose answer the test does not look at. */
    Run does(String name, int... a) {
        ask(name, a);
        return this;
    }

    /** A call and the answer that is due. */
    Run is(int want, String name, int... a) {
        due.is(call(name, a), ask(name, a), want);
        return this;
    }

    static String call(String name, int... a) {
        return name + Arrays.stream(a).mapToObj(String::valueOf).collect(Collectors.joining(", ", "(", ")"));
    }

    /** Brings a string to the tape: fed in twelves, trimmed to its length. */
    Run tape(String text) {
        int had = ask("count", 9);
        for (int i = 0; i < text.length(); i += 12) {
            ask("feed", Tapes.word(text, i), Tapes.word(text, i + 4), Tapes.word(text, i + 8));
        }
        return does("trim", had + text.length());
    }

    int text(String text) {
        return tape(text).ask("text");
    }
}
