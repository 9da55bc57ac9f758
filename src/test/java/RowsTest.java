/** Promises 38 to 42. */
public final class RowsTest {
    private static final int BAD = NineSail.BAD;
    private static final int NO = NineSail.NO;
    private static final Due due = new Due("RowsTest");

    public static void main(String[] args) {
        tell();
        check();
        checkFindsTheFirst();
        checkUsesUp();
        checkByTheImage();
        checkNearTheLastHour();
        checkWithoutBoats();
        keepAndBack();
        whatAnImageKeeps();
        whatAnImageLeaves();
        count();
        due.end();
    }

    private static void tell() {
        due.promise("promise 38");
        NineSail x = new NineSail();
        for (int i = 1; i <= 60; i++) {
            due.is("tell " + i, x.tell(i * 1000003), i);
        }
        due.is("tell 61", x.tell(0), NineSail.FULL);
        due.is("count(8)", x.count(8), 60);
    }

    private static NineSail fleet() {
        NineSail x = new NineSail();
        x.seed(99);
        x.deal(5);
        x.rule(4, 20);
        x.hours(3);
        return x;
    }

    /** The rows that are due: n hours on from where the object is now, in another object that went the same way. */
    private static int[] due(NineSail same, int n) {
        int[] rows = new int[2 * n];
        for (int h = 0; h < n; h++) {
            same.hours(1);
            rows[2 * h] = same.fleet(1);
            rows[2 * h + 1] = same.fleet(3);
        }
        return rows;
    }

    private static void tellAll(NineSail x, int[] rows, int many) {
        for (int i = 0; i < many; i++) {
            x.tell(rows[i]);
        }
    }

    private static void check() {
        due.promise("promise 39");
        for (int n = 1; n <= 30; n++) {
            NineSail x = fleet();
            x.keep();
            tellAll(x, due(fleet(), n), 2 * n);
            due.is("check(" + n + ")", x.check(n), 0);
        }
        NineSail x = new NineSail();
        due.is("check(1) without an image", x.check(1), NO);
        due.is("check(0): bad stands first", x.check(0), BAD);
        x.keep();
        due.is("check(0)", x.check(0), BAD);
        due.is("check(31)", x.check(31), BAD);
        due.is("check(-1)", x.check(-1), BAD);
    }

    private static void checkFindsTheFirst() {
        due.promise("promise 39");
        NineSail x = fleet();
        x.keep();
        int[] rows = due(fleet(), 6);
        for (int wrong = 0; wrong < 12; wrong++) {
            for (int i = 0; i < 12; i++) {
                x.tell(i == wrong ? rows[i] + 1 : rows[i]);
            }
            due.is("check(6), number " + wrong + " is wrong", x.check(6), 1 + wrong);
        }
        for (int many = 0; many < 12; many++) {
            tellAll(x, rows, many);
            due.is("check(6), " + many + " wait", x.check(6), 1 + many);
        }
        tellAll(x, rows, 12);
        due.is("check(5), too many", x.check(5), 11);
        tellAll(x, rows, 11);
        due.is("check(5), one too many", x.check(5), 11);
    }

    private static void checkUsesUp() {
        due.promise("promise 39");
        NineSail x = new NineSail();
        x.tell(1);
        x.check(1);
        due.is("count(8) behind NO", x.count(8), 0);
        x.tell(1);
        x.check(0);
        due.is("count(8) behind BAD", x.count(8), 0);
        x.keep();
        x.tell(1);
        x.check(1);
        due.is("count(8) behind a wrong one", x.count(8), 0);
        x.tell(0);
        x.tell(0);
        due.is("check(1)", x.check(1), 0);
        due.is("count(8) behind a right one", x.count(8), 0);
        due.is("tell", x.tell(5), 1);
    }

    private static void checkByTheImage() {
        due.promise("promise 39");
        NineSail x = fleet();
        x.keep();
        x.hours(50);
        x.boat(0, 1, 1);
        x.seed(5);
        Tapes.text(x, "pull 77");
        int hour = x.count(1);
        int places = x.fleet(1);
        tellAll(x, due(fleet(), 4), 8);
        due.is("check(4)", x.check(4), 0);
        due.is("THE HOUR stays", x.count(1), hour);
        due.is("PLACES stay", x.fleet(1), places);
        due.is("z stays", x.count(10), 5);
        x.back();
        due.is("THE IMAGE stays: THE HOUR", x.count(1), 3);
    }

    private static void checkNearTheLastHour() {
        due.promise("promise 39");
        NineSail x = new NineSail();
        x.boat(5, 1, 0);
        for (int i = 0; i < 99; i++) {
            x.hours(100);
        }
        x.hours(97);
        due.is("THE HOUR", x.count(1), 9997);
        x.keep();
        for (int i = 0; i < 4; i++) {
            x.tell(0);
        }
        due.is("check(30): two hours", x.check(30), 0);
        for (int i = 0; i < 5; i++) {
            x.tell(0);
        }
        due.is("check(30): one too many", x.check(30), 5);
        for (int i = 0; i < 2; i++) {
            x.tell(0);
        }
        due.is("check(1): one hour", x.check(1), 0);
        x.hours(2);
        x.keep();
        due.is("check(30): none", x.check(30), 0);
        x.tell(0);
        due.is("check(30): one too many", x.check(30), 1);
    }

    private static void checkWithoutBoats() {
        due.promise("promise 39");
        NineSail x = new NineSail();
        x.keep();
        for (int i = 0; i < 6; i++) {
            x.tell(0);
        }
        due.is("check(3)", x.check(3), 0);
    }

    private static void keepAndBack() {
        due.promise("promises 40, 41");
        NineSail x = new NineSail();
        due.is("back()", x.back(), NO);
        due.is("keep()", x.keep(), 0);
        x.deal(3);
        due.is("back()", x.back(), 0);
        due.is("count(0)", x.count(0), 0);
        x.deal(4);
        due.is("keep()", x.keep(), 4);
        x.hours(10);
        x.deal(2);
        due.is("back()", x.back(), 4);
        x.hours(10);
        due.is("back() again", x.back(), 4);
        due.is("THE HOUR", x.count(1), 0);
        x.hours(10);
        due.is("keep() anew", x.keep(), 4);
        x.hours(10);
        x.back();
        due.is("THE HOUR", x.count(1), 10);
    }

    private static String shape(NineSail x) {
        StringBuilder b = new StringBuilder();
        for (int what = 0; what <= 10; what++) {
            b.append(what == 8 || what == 9 ? 0 : x.count(what)).append(' ');
            for (int k = 0; k < x.count(0); k++) {
                b.append(x.told(k, what)).append(' ');
            }
        }
        for (int what = 0; what < 7; what++) {
            b.append(x.fleet(what)).append(' ');
        }
        for (int key = 0; key < 3; key++) {
            b.append(x.why(key)).append(' ');
        }
        return b.append(x.fee()).toString();
    }

    private static void whatAnImageKeeps() {
        due.promise("promises 40, 41");
        NineSail x = fleet();
        x.ties(2, 0);
        x.rule(1, 1);
        Tapes.text(x, "fee w*7");
        String before = shape(x);
        x.keep();
        due.holds("keep() changes nothing", shape(x).equals(before));
        Tapes.text(x, "fee w*8");
        x.hours(20);
        x.turns(0, (x.told(0, 0) + 1) % 6);
        x.set(1, 1, 50);
        x.set(1, 3, 4321);
        x.ties(2, 1);
        x.ties(3, 0);
        x.hands(4);
        for (int what = 0; what < 5; what++) {
            x.rule(what, 2);
        }
        x.seed(-4);
        x.boat(0, 1, 1);
        due.holds("all is otherwise", !shape(x).equals(before));
        x.back();
        due.holds("back(): as it was", shape(x).equals(before));
        int caught = x.hours(9);
        String behind = shape(x);
        x.hours(5);
        x.back();
        due.is("hours(9) once more", x.hours(9), caught);
        due.holds("the same hours come again", shape(x).equals(behind));
    }

    private static void whatAnImageLeaves() {
        due.promise("promises 40, 41");
        NineSail x = new NineSail();
        x.sheet(0, 0, 2);
        x.mark(0, 0, 5);
        x.lay(0, 3, 7);
        x.tell(1);
        Tapes.feed(x, "fee 3");
        x.keep();
        x.mark(0, 0, 6);
        x.sheet(1, 1, 3);
        x.lay(0, 3, 8);
        x.tell(2);
        Tapes.feed(x, "+4");
        x.back();
        due.is("numbers that wait", x.count(8), 2);
        due.is("the tape", x.count(9), 7);
        due.is("a slot", x.rest(0, 100), 8);
        x.lay(1, 2, 0);
        due.is("a sheet", x.item(1, 0), 6);
        due.is("another sheet", x.mark(1, 2, 0), 1);
        due.is("text()", x.text(), 0);
        due.is("fee()", x.fee(), 7);
    }

    private static void count() {
        due.promise("promise 42");
        NineSail x = fleet();
        for (int what = 0; what < 5; what++) {
            x.rule(what, what == 1 ? 2 : 6 + what);
        }
        Tapes.text(x, "pull 1");
        Tapes.text(x, "fee 1");
        x.tell(5);
        x.tell(5);
        x.tell(5);
        x.feed(0, 0, 0);
        x.seed(-12);
        int[] counts = {5, 3, 6, 2, 8, 9, 10, 2, 3, 12, -12};
        for (int what = 0; what < counts.length; what++) {
            due.is("count(" + what + ")", x.count(what), counts[what]);
        }
        due.is("count(-1)", x.count(-1), BAD);
        due.is("count(11)", x.count(11), BAD);
        due.is("count(MIN)", x.count(Integer.MIN_VALUE), BAD);
    }
}
