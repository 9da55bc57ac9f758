/** Promises 22 to 28: the tape, texts and their faults, and what they give. */
public final class TextsTest {
    private static final int BAD = NineSail.BAD;
    private static final int NONE = NineSail.NONE;
    private static final Due due = new Due("TextsTest");

    public static void main(String[] args) {
        feed();
        feedAnyBytes();
        trim();
        textNumbers();
        textIsFull();
        tapeIsUsedUp();
        faults();
        depths();
        longest();
        textTold();
        why();
        values();
        fee();
        fine();
        pull();
        pullInHours();
        textsAndImages();
        due.end();
    }

    private static void feed() {
        due.promise("promise 24");
        NineSail x = new NineSail();
        for (int i = 1; i <= 8; i++) {
            due.is("feed " + i, x.feed(0, 0, 0), 12 * i);
        }
        due.is("feed 9", x.feed(0, 0, 0), NineSail.FULL);
        due.is("count(9)", x.count(9), 96);
        x.trim(85);
        due.is("feed to 97", x.feed(0, 0, 0), NineSail.FULL);
        due.is("count(9)", x.count(9), 85);
        x.trim(84);
        due.is("feed to 96", x.feed(0, 0, 0), 96);
    }

    private static void feedAnyBytes() {
        due.promise("promise 24");
        NineSail x = new NineSail();
        // "fee 12", "+345", "6   " with the highest byte of each number first
        x.feed(0x66656520, 0x31322b33, 0x34352020);
        due.is("text()", x.text(), 0);
        due.is("fee()", x.fee(), 357);
        x.feed(0x66656520, 0x31202020, 0x202020ff);
        due.is("byte 255 is a sign", x.text(), -111);
        x.feed(0x80666565, 0x20312020, 0x20202020);
        due.is("byte 128 is a sign", x.text(), -100);
        x.feed(0x66656520, 0x31200020, 0x20202020);
        due.is("byte 0 is a sign", x.text(), -106);
    }

    private static void trim() {
        due.promise("promise 25");
        NineSail x = new NineSail();
        due.is("trim(0) of nothing", x.trim(0), 0);
        due.is("trim(1) of nothing", x.trim(1), BAD);
        x.feed(0x66656520, 0x31323334, 0x20202020);
        due.is("trim(13)", x.trim(13), BAD);
        due.is("trim(-1)", x.trim(-1), BAD);
        due.is("trim(12)", x.trim(12), 12);
        due.is("trim(6)", x.trim(6), 6);
        due.is("trim(7)", x.trim(7), BAD);
        due.is("count(9)", x.count(9), 6);
        due.is("text()", x.text(), 0);
        due.is("fee(): the first bytes stay", x.fee(), 12);
        x.feed(0x66656520, 0x31323334, 0x20202020);
        x.trim(5);
        x.feed(0x39202020, 0x20202020, 0x20202020);
        due.is("count(9)", x.count(9), 17);
        due.is("text()", x.text(), 1);
        due.is("fee(): what comes then stands behind", x.fee(), 19);
    }

    private static void textNumbers() {
        due.promise("promise 26");
        NineSail x = new NineSail();
        due.is("pull 1", Tapes.text(x, "pull 1"), 0);
        due.is("fee 1", Tapes.text(x, "fee 1"), 1);
        due.is("a fault between", Tapes.text(x, "fee 1 1"), -106);
        due.is("fine 1", Tapes.text(x, "fine 1"), 2);
        due.is("count(7)", x.count(7), 3);
    }

    private static void textIsFull() {
        due.promise("promise 26");
        NineSail x = new NineSail();
        for (int i = 0; i < 14; i++) {
            due.is("text " + i, Tapes.text(x, "fee " + i), i);
        }
        due.is("one more", Tapes.text(x, "fee 99"), NineSail.FULL);
        due.is("the tape is used up", x.count(9), 0);
        due.is("a fault stands first", Tapes.text(x, "fee"), -103);
        due.is("count(7)", x.count(7), 14);
        due.is("fee()", x.fee(), 13);
        due.is("why(1)", x.why(1), 13);
    }

    private static void tapeIsUsedUp() {
        due.promise("promise 26");
        NineSail x = new NineSail();
        Tapes.feed(x, "fee 7");
        due.is("count(9)", x.count(9), 5);
        x.text();
        due.is("count(9) behind a text", x.count(9), 0);
        due.is("text() of nothing", x.text(), -100);
        Tapes.feed(x, "fee ?");
        due.is("text()", x.text(), -104);
        due.is("count(9) behind a fault", x.count(9), 0);
    }

    private static void fault(String text, int place) {
        NineSail x = new NineSail();
        due.is("'" + text + "'", Tapes.text(x, text), -100 - place);
        due.is("count(7) behind '" + text + "'", x.count(7), 0);
        due.is("why behind '" + text + "'", x.why(0), NONE);
    }

    private static void good(String text) {
        due.is("'" + text + "'", Tapes.text(new NineSail(), text), 0);
    }

    private static void faults() {
        due.promise("promise 26, faults");
        String[] ends = {"", " ", "   ", "fee", "fee ", "pull   ", "fine 1+", "fee 1 + ", "fee (", "fee (1", "fee (1 ",
            "fee !", "fee 1<", "fee 1&", "fee 1|  ", "fee ((1)", "fee 1*"};
        for (String text : ends) {
            fault(text, text.length());
        }
        Object[][] faults = {
            {"f", 0}, {"feee 1", 0}, {"pul 1", 0}, {"  pulls 1", 2}, {"1", 0}, {"w", 0}, {"+", 0}, {"FEE 1", 0},
            {"feez 1", 0}, {"feea 1", 0},
            {"gee 1", 0}, {"mull 1", 0}, {"wine 1", 0}, {"fe e 1", 0}, {"fee 1{", 5}, {"fee 1`", 5}, {"fee 1:", 5},
            {"fee1", 3}, {"pull12345", 4}, {"fine1+2", 4}, {"fee 12345", 4}, {"fee  00000", 5}, {"fee 1 12345", 6},
            {"fee h", 4}, {"fee s", 4}, {"fee c", 4}, {"pull n", 5}, {"pull c", 5}, {"fine w", 5}, {"fine n", 5},
            {"fee wn", 4}, {"fee ww", 4}, {"pull whs", 5}, {"fee pull", 4}, {"fee fee", 4}, {"pull 1 w", 7},
            {"fee 1w", 5}, {"fee w1", 5}, {"fee w 1", 6}, {"fee 1(2)", 5}, {"fee (1)2", 7}, {"fee (1)(2)", 7},
            {"fee (1)w", 7}, {"fee 1)", 5}, {"fee ()", 5}, {"fee )", 4}, {"fee +1", 4}, {"fee -1", 4}, {"fee 1--1", 6},
            {"fee 1++1", 6}, {"fee 1<2<3", 7}, {"fee 1<2=3", 7}, {"fee 1=2>3", 7}, {"fee 1<=2", 6}, {"fee 1==2", 6},
            {"fee 1&&2", 6}, {"fee 1||2", 6}, {"fee 1!2", 5}, {"fee 1!=2", 5}, {"fee !)", 5}, {"fee !+1", 5},
            {"fee 1 ! 2", 6}, {"fee (1<2<3)", 8}, {"fee 1%2", 5}, {"fee 1\t", 5}, {"fee\t1", 3}, {"fee 1 \n", 6},
            {"fee A", 4}, {"fee 1;", 5}, {"fee 1.", 5}, {"fee (1))", 7}, {"fee 1 fee 2", 6}, {"fee * 1", 4},
            {"fee 1 */ 2", 7}, {"fee 1 <> 2", 7}, {"fee | 1", 4}, {"fee & 1", 4}, {"fee = 1", 4}, {"fee/1", 3},
        };
        for (Object[] f : faults) {
            fault((String) f[0], (Integer) f[1]);
        }
        String[] goods = {"fee 1", "  fee  1  ", "fee(1)", "fee!1", "fee!w", "fee (((1)))", "fee 1<2&3<4|5=6",
            "fee (1<2)<3", "fee 0000", "fee 9999", "fee w*n", "pull w+h-s", "fine c/p", "fee !(1)", "fee ! ! 1",
            "fee 1 <2", "fee 1+2*3<4", "fee( 1 )", "fee 1&2|3&4", "fee 1-!2"};
        for (String text : goods) {
            good(text);
        }
    }

    private static void depths() {
        due.promise("promise 26, eight open");
        good("fee " + "(".repeat(8) + "1" + ")".repeat(8));
        fault("fee " + "(".repeat(9) + "1" + ")".repeat(9), 12);
        good("fee " + "!".repeat(8) + "1");
        fault("fee " + "!".repeat(9) + "1", 12);
        good("fee " + "(!".repeat(8) + "1" + ")".repeat(8));
        good("fee " + "!(".repeat(8) + "1" + ")".repeat(8));
        fault("fee " + "!(".repeat(8) + "!1" + ")".repeat(8), 20);
        fault("fee " + "!(".repeat(8) + "(1)" + ")".repeat(8), 20);
        fault("fee " + "(!".repeat(8) + "!", 20);
        good("fee " + "!".repeat(8) + "1+" + "!".repeat(8) + "1");
        good("fee " + "!".repeat(8) + "(1)+" + "(".repeat(8) + "1" + ")".repeat(8));
        good("fee ((1)+(2))+" + "(".repeat(8) + "1" + ")".repeat(8));
        good("fee (!1+!2)+" + "!".repeat(8) + "1");
        good("fee (" + "!".repeat(8) + "1)*" + "!".repeat(8) + "1");
        fault("fee (" + "!".repeat(8) + "(1+!1))", 4 + 1 + 8 + 3);
        fault("fee " + "(".repeat(9), 12);
        fault("fee " + "!".repeat(9), 12);
        fault("fee " + "(".repeat(8), 12);
    }

    private static void longest() {
        due.promise("promise 26, 96 bytes");
        NineSail x = new NineSail();
        String ones = "fee 1" + "+1".repeat(45);
        due.is("95 bytes", Tapes.text(x, ones), 0);
        due.is("fee()", x.fee(), 46);
        due.is("textTold(0, 1)", x.textTold(0, 1), 46);
        due.is("96 bytes", Tapes.text(x, ones + " "), 1);
        due.is("96 bytes, the end too soon", Tapes.text(x, ones + "+"), -196);
        due.is("96 blanks", Tapes.text(x, " ".repeat(96)), -196);
        String deep = "fine " + "(1|1&1<1+1*".repeat(7) + "1" + ")".repeat(7);
        due.is("deep and wide", Tapes.text(x, deep), 2);
        x.boat(0, 1, 0);
        due.is("fine(0)", x.fine(0), 1);
    }

    private static void textTold() {
        due.promise("promise 27");
        NineSail x = new NineSail();
        due.is("textTold(0, 0) of none", x.textTold(0, 0), BAD);
        Tapes.text(x, "fine c+c*3");
        Tapes.text(x, "pull 7");
        Tapes.text(x, "fee !(w<12)|!!n");
        int[] keys = {2, 0, 1};
        int[] operands = {3, 1, 3};
        for (int i = 0; i < 3; i++) {
            due.is("textTold(" + i + ", 0)", x.textTold(i, 0), keys[i]);
            due.is("textTold(" + i + ", 1)", x.textTold(i, 1), operands[i]);
        }
        due.is("textTold(3, 0)", x.textTold(3, 0), BAD);
        due.is("textTold(-1, 0)", x.textTold(-1, 0), BAD);
        due.is("textTold(0, 2)", x.textTold(0, 2), BAD);
        due.is("textTold(0, -1)", x.textTold(0, -1), BAD);
        due.is("textTold(14, 0)", x.textTold(14, 0), BAD);
    }

    private static void why() {
        due.promise("promise 28");
        NineSail x = new NineSail();
        due.is("why(-1)", x.why(-1), BAD);
        due.is("why(3)", x.why(3), BAD);
        due.is("why(0)", x.why(0), NONE);
        Tapes.text(x, "fee 1");
        Tapes.text(x, "fine 2");
        Tapes.text(x, "fee 3");
        due.is("why(0)", x.why(0), NONE);
        due.is("why(1): told last", x.why(1), 2);
        due.is("why(2)", x.why(2), 1);
        Tapes.text(x, "pull 3");
        due.is("why(0)", x.why(0), 3);
    }

    private static void value(String e, int want) {
        NineSail x = new NineSail();
        due.is("fee " + e, Tapes.text(x, "fee " + e), 0);
        due.is("what fee " + e + " gives", x.fee(), want);
    }

    private static void values() {
        due.promise("section 4, what texts give");
        Object[][] values = {
            {"7", 7}, {"0012", 12}, {"1+2*3", 7}, {"(1+2)*3", 9}, {"10-3-2", 5}, {"100/10/5", 2}, {"100/(10/5)", 50},
            {"2*7/4", 3}, {"7/4*2", 2}, {"(0-7)/2", -3}, {"7/(0-2)", -3}, {"7/0", 0}, {"0/0", 0}, {"(0-1)/0", 0},
            {"1<2", 1}, {"2<1", 0}, {"1<1", 0}, {"2>1", 1}, {"1>1", 0}, {"3=3", 1}, {"3=4", 0}, {"1+1=2", 1},
            {"5&7", 1}, {"5&0", 0}, {"0&5", 0}, {"0|0", 0}, {"0|9", 1}, {"9|0", 1}, {"(0-3)&1", 1}, {"!0", 1}, {"!5", 0},
            {"!!5", 1}, {"!(0-1)", 0}, {"!0*8", 8}, {"!0+!0", 2}, {"1|0&0", 1}, {"(1|0)&0", 0}, {"0&0|1", 1},
            {"1<2&3<4", 1}, {"2&1<2", 1}, {"3<2|4", 1}, {"5", 5}, {"0-5", -5}, {"(1<2)=1", 1}, {"3>2>1", NONE},
            {"9999*9999*9999", 9999 * 9999 * 9999}, {"9999*9999*9999*9999+7", 9999 * 9999 * 9999 * 9999 + 7},
            {"8192*8192*32/(0-1)", -8192 * 8192 * 32 / -1}, {"8192*8192*32", Integer.MIN_VALUE}, {"1-2-3*4", -13},
            {"0<0-1", 0}, {"0-1<0", 1}, {"7-4>2&!(3=4)", 1}, {"12 / 5 * 5", 10}, {"1000*3-2*500/(4+1)", 2800},
        };
        for (Object[] v : values) {
            if (v[1].equals(NONE)) {
                fault("fee " + v[0], 4 + 3);
            } else {
                value((String) v[0], (Integer) v[1]);
            }
        }
    }

    private static void fee() {
        due.promise("promise 22");
        NineSail x = new NineSail();
        x.hours(5);
        x.boat(0, 1, 0);
        x.hours(2);
        due.is("fee() without a text", x.fee(), 2);
        Tapes.text(x, "fee w*100+n");
        due.is("fee()", x.fee(), 207);
        x.hours(1);
        due.is("fee()", x.fee(), 308);
        Tapes.text(x, "fee n");
        due.is("fee() by the last one", x.fee(), 8);
        Tapes.text(x, "fine 5");
        Tapes.text(x, "pull 5");
        due.is("fee(): of its own key", x.fee(), 8);
        Tapes.text(x, "fee 0-w");
        due.is("fee() below 0", x.fee(), -3);
    }

    private static void fine() {
        due.promise("promise 23");
        NineSail x = new NineSail();
        due.is("fine(0) without boats", x.fine(0), BAD);
        x.boat(0, 1, 0);
        x.boat(0, 9, 0);
        x.rule(4, 100);
        x.hours(3);
        due.is("fine(0) without a text", x.fine(0), 6);
        Tapes.text(x, "fine c*100+p");
        due.is("fine(0)", x.fine(0), 600);
        due.is("fine(1)", x.fine(1), 3);
        due.is("fine(2)", x.fine(2), BAD);
        due.is("fine(-1)", x.fine(-1), BAD);
    }

    private static void pull() {
        due.promise("promise 3, pull");
        NineSail x = new NineSail();
        for (int kind = 0; kind < 6; kind++) {
            x.boat(kind, 7, 0);
        }
        Tapes.text(x, "pull w*100+h+s*3");
        x.rule(2, 99);
        x.seed(Draws.forWinds(0, 0, 4));
        x.hours(3);
        int given = 400 + 7 + 9;
        int[] pulls = {given, given + 5, given / 2, 2 * (given + 5), given / 2 + 9, 0};
        for (int k = 0; k < 6; k++) {
            due.is("PULLS of " + k, x.told(k, 7), pulls[k]);
        }
        Tapes.text(x, "pull 9999");
        int[] most = {999, 1004, 499, 2008, 508, 0};
        for (int k = 0; k < 6; k++) {
            due.is("PULLS of " + k + ", 999 at most", x.told(k, 7), most[k]);
        }
        Tapes.text(x, "pull 0-1");
        int[] least = {0, 5, 0, 10, 9, 0};
        for (int k = 0; k < 6; k++) {
            due.is("PULLS of " + k + ", 0 at least", x.told(k, 7), least[k]);
        }
        Tapes.text(x, "pull 200");
        due.is("speed()", x.speed(), 200 - (4 + 14 + 4 + 13 + 7) / 4);
    }

    private static void pullInHours() {
        due.promise("promise 13, pull");
        NineSail x = new NineSail();
        x.boat(0, 10, 0);
        x.boat(0, 3, 0);
        Tapes.text(x, "pull 10*s+h");
        x.rule(2, 2);
        x.seed(Draws.forWinds(1, 1, 1, 1, 1));
        int[] places = {10, 30, 31, 42, 52};
        for (int h = 0; h < 5; h++) {
            due.is("behind(" + (h + 1) + ", 3)", x.behind(h + 1, 3), places[h]);
        }
        for (int h = 0; h < 5; h++) {
            x.hours(1);
            due.is("PLACE behind " + (h + 1), x.told(0, 2), places[h]);
        }
    }

    private static void textsAndImages() {
        due.promise("promise 41, texts");
        NineSail x = new NineSail();
        Tapes.text(x, "fee 11");
        x.keep();
        Tapes.text(x, "fee 22");
        Tapes.text(x, "pull 33");
        Tapes.feed(x, "fee 44");
        x.back();
        due.is("count(7)", x.count(7), 1);
        due.is("why(0)", x.why(0), NONE);
        due.is("why(1)", x.why(1), 0);
        due.is("fee()", x.fee(), 11);
        due.is("textTold(1, 0)", x.textTold(1, 0), BAD);
        due.is("the tape stays", x.count(9), 6);
        due.is("text()", x.text(), 1);
        due.is("fee()", x.fee(), 44);
        x.back();
        due.is("fee()", x.fee(), 11);
    }
}
