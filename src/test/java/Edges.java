import java.lang.reflect.InvocationTargetException;
import java.lang.reflect.Method;
import java.util.ArrayList;
import java.util.Comparator;
import java.util.List;
import java.util.Set;

/** What the tests of single sentences share: each is a method that bears the sentence it holds the class against. */
abstract class Edges {
    static final int BAD = NineSail.BAD;
    static final int NO = NineSail.NO;
    static final int FULL = NineSail.FULL;
    static final int NONE = NineSail.NONE;
    static final int NOTHING = NineSail.NOTHING;
    static final int KIND = NineSail.KIND;
    static final int INDEX = NineSail.INDEX;
    static final int SIZE = NineSail.SIZE;
    static final int MIN = Integer.MIN_VALUE;
    static final int MAX = Integer.MAX_VALUE;

    static Due due;

    /** The calls that bring a new object to where a test begins. */
    interface Setup {
        void on(Run x);
    }

    static void testAll(Class<?> tests) {
        due = new Due(tests.getSimpleName());
        for (Method m : testsOf(tests)) {
            test(m);
        }
        due.end();
    }

    /** For those who look at the tests themselves: the tests that notice something, all of them or only the first. */
    static Set<String> noticing(Class<?> tests, boolean all) {
        due = new Due(tests.getSimpleName());
        for (Method m : testsOf(tests)) {
            if (all || due.broken().isEmpty()) {
                test(m);
            }
        }
        return due.broken();
    }

    static List<Method> testsOf(Class<?> tests) {
        List<Method> found = new ArrayList<>();
        for (Method m : tests.getDeclaredMethods()) {
            if (m.isAnnotationPresent(Sentence.class)) {
                found.add(m);
            }
        }
        found.sort(Comparator.comparing(Method::getName));
        return found;
    }

    static String nameOf(Method test) {
        Sentence s = test.getAnnotation(Sentence.class);
        return s.of() + ", \"" + s.words() + "\", " + test.getName();
    }

    private static void test(Method m) {
        due.promise(nameOf(m));
        int before = due.asked();
        try {
            m.setAccessible(true);
            m.invoke(null);
        } catch (InvocationTargetException e) {
            due.holds("the test goes to its end, but: " + e.getCause(), false);
        } catch (IllegalAccessException e) {
            throw new IllegalStateException(e);
        }
        due.holds("the test looks at an answer", due.asked() > before);
    }

    static Run run() {
        return new Run(due);
    }

    static Run run(Setup setup) {
        Run x = run();
        setup.on(x);
        return x;
    }

    /** The call has this answer, and all that can be seen of the object stays as it was. */
    static void still(Setup setup, int want, String name, int... a) {
        leaves(setup, setup, want, name, a);
    }

    /** The call has this answer, and behind it the object is as another one on which it was not made. */
    static void leaves(Setup setup, Setup then, int want, String name, int... a) {
        String call = Run.call(name, a);
        for (int part = 0; part < Bare.PARTS; part++) {
            Run x = run(setup);
            x.is(want, name, a);
            String got = Bare.part(x, part);
            String asDue = Bare.part(run(then), part);
            due.holds("behind " + call + " all is as due; " + firstDifference(got, asDue), got.equals(asDue));
        }
    }

    private static String firstDifference(String got, String asDue) {
        String[] is = got.split("\n");
        String[] ought = asDue.split("\n");
        for (int i = 0; i < Math.min(is.length, ought.length); i++) {
            if (!is[i].equals(ought[i])) {
                return is[i] + ", due is " + ought[i];
            }
        }
        return "as many calls";
    }

    // ---- objects that tests begin with

    /** Boats, texts and rules as the image of a laden object keeps them. */
    static void ladenImage(Run x) {
        x.does("seed", 4711).does("deal", 5).does("rule", 3, 7).does("rule", 4, 30).does("ties", 2, 0);
        x.text("pull w*9+h-s");
        x.text("fee w*3+n");
        x.text("fine c+p");
        x.does("hours", 6);
    }

    /**
     * Something of everything: six boats, four texts, an image that is otherwise, the right numbers of three hours by it,
     * sheets of both sorts, an empty and a missing one (2), all kinds of things in slots (4 holds nothing), and a text on
     * the tape.
     */
    static void laden(Run x) {
        ladenButWaiting(x);
        for (int v : hoursTold(Edges::ladenImage, 3)) {
            x.does("tell", v);
        }
    }

    static void ladenButWaiting(Run x) {
        ladenButTapeAndWaiting(x);
        x.tape("fee n+44*w ");
    }

    static void ladenButTape(Run x) {
        ladenButTapeAndWaiting(x);
        for (int v : hoursTold(Edges::ladenImage, 3)) {
            x.does("tell", v);
        }
    }

    private static void ladenButTapeAndWaiting(Run x) {
        ladenImage(x);
        x.does("keep");
        x.does("rule", 1, 1).does("boat", 4, 33, 444).does("hours", 4).does("ties", 4, 0).does("hands", 3);
        // Two hours in which the sail stays where it is, so that SINCE is not 0.
        x.does("rule", 1, 0).does("rule", 2, 77).does("rule", 4, 0).does("hours", 2).does("rule", 1, 1).does("rule", 4, 30);
        x.text("fee 7*w");
        sheetsAndSlots(x);
        x.does("lay", 0, 1, 1);
    }

    private static void sheetsAndSlots(Run x) {
        x.does("sheet", 0, 0, 5).does("mark", 0, 0, 12).does("mark", 0, 2, -9).does("mark", 0, 4, 32767);
        x.does("sheet", 1, 1, 7).does("mark", 1, 0, NONE).does("mark", 1, 3, 99999).does("mark", 1, 6, -5);
        x.does("sheet", 3, 0, 0);
        x.does("lay", 1, 2, 1).does("lay", 2, 3, -77).does("lay", 3, 2, 0);
    }

    /** Likewise, but no image was ever kept; two numbers wait. */
    static void ladenWithoutImage(Run x) {
        ladenWithoutImageAndWaiting(x);
        x.does("tell", 1).does("tell", 2);
    }

    static void ladenWithoutImageAndWaiting(Run x) {
        ladenImage(x);
        sheetsAndSlots(x);
        x.does("lay", 0, 1, 1).tape("fee n+44*w ");
    }

    /** Likewise, but there are no boats, nor any in the image; the right numbers of one hour wait. */
    static void ladenWithoutBoats(Run x) {
        x.text("pull w*9+h-s");
        x.text("fee w*3+n");
        x.does("seed", 4711).does("rule", 4, 30).does("hours", 6).does("keep").does("rule", 1, 2).does("hours", 4);
        sheetsAndSlots(x);
        x.does("lay", 0, 3, 5).does("tell", 0).does("tell", 0).tape("fee n+44*w ");
    }

    /** The hours told of n hours, from where the setup leaves an object. */
    static int[] hoursTold(Setup setup, int n) {
        Run same = run(setup);
        int[] rows = new int[2 * n];
        for (int h = 0; h < n; h++) {
            same.does("hours", 1);
            rows[2 * h] = same.ask("fleet", 1);
            rows[2 * h + 1] = same.ask("fleet", 3);
        }
        return rows;
    }

    static Run boats(int n) {
        return run(x -> {
            for (int k = 0; k < n; k++) {
                x.does("boat", 0, 1, 0);
            }
        });
    }

    /** The hour 9900 and this many more, without boats so far. */
    static void late(Run x, int more) {
        for (int i = 0; i < 99; i++) {
            x.does("hours", 100);
        }
        if (more > 0) {
            x.does("hours", more);
        }
    }
}
