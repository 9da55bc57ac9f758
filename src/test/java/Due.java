import java.util.Set;
import java.util.TreeSet;

/** Counts the answers that are not as due, prints each of them, and ends the test with exit code 1 if there was one. */
final class Due {
    private final String test;
    private String promise = "";
    private int wrong;
    private int asked;
    private final Set<String> broken = new TreeSet<>();

    Due(String test) {
        this.test = test;
    }

    void promise(String name) {
        promise = name;
    }

    void is(String call, long got, long want) {
        asked++;
        if (got != want) {
            wrong++;
            broken.add(promise);
            System.out.println(test + ", " + promise + ": " + call + " answered " + got + ", due is " + want);
        }
    }

    void holds(String what, boolean is) {
        is(what, is ? 1 : 0, 1);
    }

    int asked() {
        return asked;
    }

    /** The promises, or sentences, by which an answer was wrong. */
    Set<String> broken() {
        return broken;
    }

    void end() {
        System.out.println(test + ": " + asked + " answers, " + wrong + " wrong");
        if (wrong != 0 || asked == 0) {
            System.exit(1);
        }
    }
}
