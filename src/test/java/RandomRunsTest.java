import java.lang.reflect.Method;
import java.lang.reflect.Modifier;
import java.util.Arrays;
import java.util.Comparator;
import java.util.Random;

/** Runs of 512 calls by lot on new objects; each answer is due as Model gives it. The lot is the same every time. */
public final class RandomRunsTest {
    private static final int RUNS = Integer.getInteger("runs", 1200);
    private static final int CALLS = 512;

    private final Random lot;
    private final NineSail x = new NineSail();
    private final Model model = new Model();
    private final StringBuilder told = new StringBuilder();
    private int calls;
    private static Method[] face;
    private static int[] answered;
    private static int[] refused;

    private RandomRunsTest(long seed) {
        lot = new Random(seed);
    }

    public static void main(String[] args) throws Exception {
        face = Arrays.stream(NineSail.class.getDeclaredMethods())
            .filter(m -> Modifier.isPublic(m.getModifiers()))
            .sorted(Comparator.comparing(Method::getName)).toArray(Method[]::new);
        answered = new int[face.length];
        refused = new int[face.length];
        for (int run = 0; run < RUNS; run++) {
            if (!new RandomRunsTest(run * 7919L + 13).run()) {
                System.exit(1);
            }
        }
        for (int i = 0; i < face.length; i++) {
            if (answered[i] < RUNS / 4 || face[i].getParameterCount() > 0 && refused[i] == 0
                && !face[i].getName().equals("seed")) {
                System.out.println(face[i].getName() + " was asked too little: " + answered[i] + ", " + refused[i]);
                System.exit(1);
            }
        }
        System.out.println("RandomRunsTest: " + RUNS + " runs of " + CALLS + " calls, 0 wrong");
    }

    private boolean run() throws Exception {
        int mood = lot.nextInt(4);
        if (lot.nextInt(8) > 0 && !begin()) {
            return false;
        }
        while (calls < CALLS) {
            int pick = lot.nextInt(100);
            boolean right = pick < 8 ? tellText() : pick < 11 ? tellRows() : pick < 20 && mood == 0 ? pass() : callOne();
            if (!right) {
                return false;
            }
        }
        return true;
    }

    /** Most runs have boats, sheets and things in slots from the first, so that fewer calls are refused. */
    private boolean begin() throws Exception {
        boolean right = ask("seed", lot.nextInt()) && ask("deal", 1 + lot.nextInt(9));
        for (int i = 0; i < 5 && right; i++) {
            right = ask("sheet", i % 4, lot.nextInt(2), lot.nextInt(12)) && ask("lay", i, 1 + lot.nextInt(3), i % 4);
        }
        return right;
    }

    /** Some runs go fast through the hours, so that the last one comes. */
    private boolean pass() throws Exception {
        return ask("hours", 100);
    }

    private boolean callOne() throws Exception {
        Method m = face[lot.nextInt(face.length)];
        if (m.getName().equals("text") || m.getName().equals("check") || m.getName().equals("back")) {
            m = face[lot.nextInt(face.length)];
        }
        int[] a = new int[m.getParameterCount()];
        for (int i = 0; i < a.length; i++) {
            a[i] = number(m.getName(), i);
        }
        return ask(m.getName(), a);
    }

    private boolean ask(String name, int... a) throws Exception {
        if (calls++ >= CALLS) {
            return true;
        }
        int index = 0;
        while (!face[index].getName().equals(name)) {
            index++;
        }
        Object[] boxed = Arrays.stream(a).boxed().toArray();
        int got = (Integer) face[index].invoke(x, boxed);
        int due = model.call(name, a);
        told.append(name).append(Arrays.toString(a)).append(" -> ").append(got).append('\n');
        if (got <= -1000000001 && got >= -1000000020) {
            refused[index]++;
        } else {
            answered[index]++;
        }
        if (got != due) {
            System.out.println(told + "due is " + due);
        }
        return got == due;
    }

    private static final String RANGES = "boat 0:5 1:50 0:9999;told 0:8 0:10;as 0:8 0:5;turns 0:8 0:5;set 0:8 1:3 0:9999;"
        + "ties 0:8 0:1;hands 0:8;rule 0:4 0:9;deal 1:9;speed;hours 1:100;fleet 0:6;behind 0:100 0:11;home;bestLaw 1:60 0:1;"
        + "turned 1:40 0:1;cutOff 1:60;wishes 1:60 0:1;whose 0:3 0:60 0:1;fee;fine 0:8;trim 0:96;text;textTold 0:13 0:1;"
        + "why 0:2;sheet 0:3 -1:1 0:24;mark 0:3 0:23 -99999:99999;pour 0:3;reads 0:3;copy 0:3 0:9 0:3 0:9 0:9;"
        + "lay 0:4 0:3 0:8;ask 0:4 0:5;item 0:4 0:23;rest 0:4 -9:9;check 1:30;keep;back;count 0:10;";

    private int number(String name, int place) {
        int odd = lot.nextInt(60);
        if (odd == 0) {
            int[] odds = {Integer.MIN_VALUE, Integer.MAX_VALUE, -1, 0, Model.NONE, 10000, 65536, 100000, -100000, 24, 25};
            return odds[lot.nextInt(odds.length)];
        }
        int from = (";" + RANGES).indexOf(";" + name + " ");
        if (from < 0) {
            return lot.nextInt();
        }
        String[] parts = RANGES.substring(from, RANGES.indexOf(';', from)).split(" ");
        String[] ends = parts[place + 1].split(":");
        int least = Integer.parseInt(ends[0]);
        int most = Integer.parseInt(ends[1]);
        if (odd == 1) {
            return lot.nextBoolean() ? least - 1 : most + 1;
        }
        if (most - least > 1000 && lot.nextInt(3) > 0) {
            return lot.nextInt(8) == 0 ? Model.NONE : lot.nextInt(700) - (least < 0 ? 100 : 0);
        }
        return least + lot.nextInt(most - least + 1);
    }

    private boolean tellText() throws Exception {
        StringBuilder b = new StringBuilder(blanks());
        String key = new String[] {"pull", "fee", "fine"}[lot.nextInt(3)];
        String names = key.equals("pull") ? "whs" : key.equals("fee") ? "wn" : "cp";
        b.append(key).append(lot.nextInt(4) == 0 ? "" : " ").append(expression(names, 3)).append(blanks());
        if (lot.nextInt(3) == 0) {
            spoil(b);
        }
        String text = b.toString();
        for (int i = 0; i < text.length() && i < 96; i += 12) {
            if (!ask("feed", word(text, i), word(text, i + 4), word(text, i + 8))) {
                return false;
            }
        }
        return ask("trim", Math.min(text.length(), 96)) && ask("text");
    }

    private static int word(String text, int from) {
        int word = 0;
        for (int i = from; i < from + 4; i++) {
            word = word << 8 | (i < text.length() ? text.charAt(i) & 255 : 32);
        }
        return word;
    }

    private String blanks() {
        return " ".repeat(Math.max(0, lot.nextInt(8) - 5));
    }

    private void spoil(StringBuilder b) {
        String signs = "|&<=>+-*/!() whsncp0123456789zA~";
        char sign = lot.nextInt(9) == 0 ? (char) lot.nextInt(256) : signs.charAt(lot.nextInt(signs.length()));
        int at = lot.nextInt(b.length());
        switch (lot.nextInt(4)) {
            case 0: b.insert(at, sign); break;
            case 1: b.setCharAt(at, sign); break;
            case 2: b.deleteCharAt(at); break;
            default: b.insert(at, String.valueOf("(!".charAt(lot.nextInt(2))).repeat(1 + lot.nextInt(9))); break;
        }
    }

    private String expression(String names, int depth) {
        int pieces = 1 + lot.nextInt(3);
        StringBuilder b = new StringBuilder(piece(names, depth));
        for (int i = 1; i < pieces; i++) {
            b.append(blanks()).append("|&<=>+-*/+-*/".charAt(lot.nextInt(13))).append(blanks());
            b.append(piece(names, depth));
        }
        return b.toString();
    }

    private String piece(String names, int depth) {
        int pick = lot.nextInt(depth > 0 ? 7 : 4);
        if (pick < 2) {
            return String.valueOf(lot.nextInt(new int[] {3, 100, 10000}[lot.nextInt(3)]));
        }
        if (pick < 4) {
            return names.substring(0, 1 + lot.nextInt(names.length())).replaceAll(".*(.)", "$1");
        }
        return pick == 4 ? "!" + piece(names, depth - 1) : "(" + expression(names, depth - 1) + ")";
    }

    /** The rows that are due by the image, most often right, sometimes spoiled, cut short or with one too many. */
    private boolean tellRows() throws Exception {
        int n = 1 + lot.nextInt(lot.nextInt(4) == 0 ? 30 : 4);
        if (model.image == null) {
            return ask("check", n);
        }
        Model.State s = model.image.twin();
        int spoiled = lot.nextInt(3) == 0 ? lot.nextInt(2 * n) : -1;
        int many = 2 * n - (lot.nextInt(4) == 0 ? 1 : 0);
        for (int i = 0; i < many && (i % 2 == 1 || s.hour < 9999); i++) {
            if (i % 2 == 0) {
                s.hour();
            }
            int v = i % 2 == 0 ? s.sum(b -> b.f[2]) : s.sail;
            if (!ask("tell", i == spoiled ? v + 1 : v)) {
                return false;
            }
        }
        return (lot.nextInt(6) > 0 || ask("tell", 0)) && ask("check", n);
    }
}
