/**
 * All that calls can show of an object, so that two objects can be held against one another: in parts, for no object may
 * be asked more than 512 times. What is laid bare is used up by it.
 */
final class Bare {
    static final int PARTS = 3;

    private final Run x;
    private final StringBuilder told = new StringBuilder();

    private Bare(Run x) {
        this.x = x;
    }

    static String part(Run x, int part) {
        Bare b = new Bare(x);
        if (part == 0) {
            b.sea();
            b.ask("hours", 5);
            b.sea();
        } else if (part == 1) {
            b.slots();
            b.sheets();
        } else {
            b.waiting();
            b.tape();
            b.ask("back");
            b.sea();
        }
        return b.told.toString();
    }

    private int ask(String name, int... a) {
        int answer = x.ask(name, a);
        told.append(Run.call(name, a)).append(" -> ").append(answer).append('\n');
        return answer;
    }

    private void sea() {
        for (int what = 0; what <= 10; what++) {
            ask("count", what);
        }
        for (int what = 0; what <= 6; what++) {
            ask("fleet", what);
        }
        int boats = x.ask("count", 0);
        for (int k = 0; k < boats; k++) {
            for (int what = 0; what <= 10; what++) {
                ask("told", k, what);
            }
            ask("fine", k);
        }
        for (int key = 0; key < 3; key++) {
            ask("why", key);
        }
        int texts = x.ask("count", 7);
        for (int text = 0; text < texts; text++) {
            ask("textTold", text, 0);
            ask("textTold", text, 1);
        }
        ask("fee");
    }

    private void slots() {
        for (int slot = 0; slot < 5; slot++) {
            ask("rest", slot, Integer.MIN_VALUE);
            for (int kind = 0; kind < 6; kind++) {
                ask("ask", slot, kind);
            }
            row(slot);
        }
    }

    /** Up to the end of the row, and no further: most rows are short. */
    private void row(int slot) {
        for (int place = 0; place < 25; place++) {
            int answer = ask("item", slot, place);
            if (answer == NineSail.INDEX || answer == NineSail.NOTHING) {
                return;
            }
        }
    }

    private void sheets() {
        for (int sheet = 0; sheet < 4; sheet++) {
            ask("lay", 0, 0, 0);
            ask("lay", 0, 2, sheet);
            row(0);
            ask("mark", sheet, 0, NineSail.NONE);
        }
    }

    /** Whether the numbers are still what they were can be seen if they were the right ones. */
    private void waiting() {
        int pairs = ask("count", 8) / 2;
        ask("check", Math.max(1, Math.min(30, pairs)));
    }

    private void tape() {
        ask("count", 9);
        int text = ask("text");
        ask("textTold", text, 0);
        ask("textTold", text, 1);
        ask("fee");
    }
}
