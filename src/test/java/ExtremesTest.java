import java.lang.reflect.Method;
import java.lang.reflect.Modifier;
import java.util.Arrays;
import java.util.Comparator;

/** Every call with all extreme arguments together, on a new object and on a laden one: none throws, all answer as Model. */
public final class ExtremesTest {
    private static final int[] EXTREMES = {Integer.MIN_VALUE, Integer.MIN_VALUE + 1, NineSail.NONE, -1, 0, 1, 3, 24,
        Integer.MAX_VALUE - 1, Integer.MAX_VALUE};
    private static final int[] FEW = {Integer.MIN_VALUE, -1, 0, 1, 5, Integer.MAX_VALUE};
    /** So many calls are made on one object, beside those that load it. */
    private static final int MOST_CALLS = 400;
    private static final Due due = new Due("ExtremesTest");

    private final boolean laden;
    private NineSail x;
    private Model model;
    private int calls = MOST_CALLS;

    private ExtremesTest(boolean laden) {
        this.laden = laden;
    }

    public static void main(String[] args) throws Exception {
        Method[] face = Arrays.stream(NineSail.class.getDeclaredMethods())
            .filter(m -> Modifier.isPublic(m.getModifiers())).sorted(Comparator.comparing(Method::getName)).toArray(Method[]::new);
        for (Method m : face) {
            due.promise(m.getName());
            new ExtremesTest(false).each(m);
            new ExtremesTest(true).each(m);
        }
        due.end();
    }

    private void each(Method m) throws Exception {
        int[] values = m.getParameterCount() > 3 ? FEW : EXTREMES;
        int many = 1;
        for (int i = 0; i < m.getParameterCount(); i++) {
            many *= values.length;
        }
        for (int i = 0; i < many; i++) {
            int[] a = new int[m.getParameterCount()];
            int left = i;
            for (int k = 0; k < a.length; k++) {
                a[k] = values[left % values.length];
                left /= values.length;
            }
            if (calls >= MOST_CALLS) {
                begin();
            }
            calls++;
            ask(m, a);
        }
    }

    private void begin() throws Exception {
        x = new NineSail();
        model = new Model();
        calls = 0;
        if (laden) {
            load("seed", 77);
            load("deal", 4);
            load("sheet", 0, 0, 5);
            load("sheet", 1, 1, 24);
            load("mark", 1, 3, NineSail.NONE);
            load("lay", 0, 1, 3);
            load("lay", 1, 2, 1);
            load("lay", 3, 3, Integer.MIN_VALUE);
            load("feed", 0x66656520, 0x38313932, 0x2a770000);
            load("trim", 10);
            load("text");
            load("feed", 0x70756c6c, 0x20382f73, 0x20202020);
            load("text");
            load("keep");
            load("hours", 5);
        }
    }

    private void load(String name, int... a) throws Exception {
        Class<?>[] types = new Class<?>[a.length];
        Arrays.fill(types, int.class);
        ask(NineSail.class.getMethod(name, types), a);
    }

    private void ask(Method m, int[] a) throws Exception {
        int got = (Integer) m.invoke(x, Arrays.stream(a).boxed().toArray());
        due.is(Run.call(m.getName(), a), got, model.call(m.getName(), a));
    }
}
