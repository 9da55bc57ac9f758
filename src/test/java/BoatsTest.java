/** Promises 1 to 11. */
public final class BoatsTest {
    private static final int BAD = NineSail.BAD;
    private static final Due due = new Due("BoatsTest");

    public static void main(String[] args) {
        newObject();
        boat();
        boatIsNewAgain();
        told();
        as();
        turns();
        set();
        ties();
        hands();
        rule();
        deal();
        seed();
        due.end();
    }

    private static void newObject() {
        due.promise("promise 1");
        NineSail x = new NineSail();
        int[] counts = {0, 0, 5, 0, 3, 4, 0, 0, 0, 0, 1};
        for (int i = 0; i < counts.length; i++) {
            due.is("count(" + i + ")", x.count(i), counts[i]);
        }
        for (int i = 0; i < 7; i++) {
            due.is("fleet(" + i + ")", x.fleet(i), 0);
        }
        for (int i = 0; i < 3; i++) {
            due.is("why(" + i + ")", x.why(i), NineSail.NONE);
        }
        for (int i = 0; i < 4; i++) {
            due.is("reads(" + i + ")", x.reads(i), NineSail.NOTHING);
        }
        for (int i = 0; i < 5; i++) {
            due.is("rest(" + i + ", 1)", x.rest(i, 1), NineSail.NOTHING);
        }
        due.is("told(0, 0)", x.told(0, 0), BAD);
        due.is("back()", x.back(), NineSail.NO);
        due.is("fee()", x.fee(), 0);
        due.is("BAD", BAD, -1000000001);
    }

    private static void boat() {
        due.promise("promise 2");
        NineSail x = new NineSail();
        int[][] bad = {{-1, 1, 0}, {6, 1, 0}, {0, 0, 0}, {0, 51, 0}, {0, -1, 0}, {0, 1, -1}, {0, 1, 10000},
            {Integer.MIN_VALUE, 1, 0}, {0, Integer.MAX_VALUE, 0}, {0, 1, Integer.MAX_VALUE}};
        for (int[] b : bad) {
            due.is("bad boat", x.boat(b[0], b[1], b[2]), BAD);
        }
        due.is("count(0) behind bad ones", x.count(0), 0);
        for (int i = 0; i < 9; i++) {
            due.is("boat " + i, x.boat(i % 6, i == 0 ? 50 : 1, i == 1 ? 9999 : 0), i);
        }
        due.is("the tenth boat", x.boat(0, 1, 0), NineSail.FULL);
        due.is("bad ahead of full", x.boat(6, 1, 0), BAD);
        due.is("count(0)", x.count(0), 9);
        int[] first = {0, 50, 0, 0, 0, 1, 0};
        int[] second = {1, 1, 0, 9999, 0, 1, 0};
        for (int what = 0; what < 7; what++) {
            due.is("told(0, " + what + ")", x.told(0, what), first[what]);
            due.is("told(1, " + what + ")", x.told(1, what), second[what]);
        }
        due.is("count(10): no draws", x.count(10), 1);
    }

    private static void boatIsNewAgain() {
        due.promise("promise 2");
        NineSail x = new NineSail();
        x.boat(0, 5, 0);
        x.keep();
        x.boat(3, 40, 700);
        x.rule(4, 100);
        x.hours(5);
        x.ties(1, 0);
        x.hours(5);
        due.holds("the storm came to boat 1", x.told(1, 6) == 10);
        x.back();
        due.is("boat(1, 2, 3)", x.boat(1, 2, 3), 1);
        int[] fresh = {1, 2, 0, 3, 0, 1, 0};
        for (int what = 0; what < fresh.length; what++) {
            due.is("told(1, " + what + ")", x.told(1, what), fresh[what]);
        }
    }

    private static void told() {
        due.promise("promise 3");
        // weight, wind, then for kinds 0 to 5: PULLS, DRAGS, ROWS, WORTH
        int[][] rows = {
            {4, 5, 46, 4, 0, 4, 51, 1, 4, 12, 23, 8, 0, 95, 102, 1, 6, 24, 32, 7, 1, 88, 0, 4, 0, 4},
            {1, 9, 89, 1, 0, 1, 94, 0, 4, 9, 44, 2, 0, 98, 188, 0, 6, 18, 53, 1, 1, 91, 0, 1, 0, 4},
            {50, 5, 0, 50, 0, 50, 5, 47, 4, 58, 0, 100, 0, 49, 10, 47, 6, 116, 9, 99, 1, 42, 0, 50, 0, 4},
            {2, 0, 0, 2, 0, 2, 5, 0, 4, 10, 0, 4, 0, 97, 10, 0, 6, 20, 9, 3, 1, 90, 0, 2, 0, 4},
            {3, 1, 7, 3, 0, 3, 12, 0, 4, 11, 3, 6, 0, 96, 24, 0, 6, 22, 12, 5, 1, 89, 0, 3, 0, 4},
        };
        for (int[] row : rows) {
            NineSail x = new NineSail();
            x.rule(0, row[1]);
            for (int kind = 0; kind < 6; kind++) {
                x.boat(kind, row[0], 0);
                for (int what = 0; what < 4; what++) {
                    due.is("told(" + kind + ", " + (7 + what) + ") with weight " + row[0] + ", wind " + row[1],
                        x.told(kind, 7 + what), row[2 + 4 * kind + what]);
                }
            }
        }
        NineSail x = new NineSail();
        x.boat(0, 4, 9);
        due.is("told(-1, 0)", x.told(-1, 0), BAD);
        due.is("told(1, 0)", x.told(1, 0), BAD);
        due.is("told(0, -1)", x.told(0, -1), BAD);
        due.is("told(0, 11)", x.told(0, 11), BAD);
        due.is("told(9, 0)", x.told(9, 0), BAD);
        due.is("told(MAX, MIN)", x.told(Integer.MAX_VALUE, Integer.MIN_VALUE), BAD);
        toldBehindHours(x);
    }

    private static void toldBehindHours(NineSail x) {
        x.boat(5, 50, 0);
        x.rule(4, 100);
        x.rule(3, 10);
        x.hours(3);
        due.is("CATCH of the one without the sail", x.told(0, 4), 15);
        due.is("PATCHES of the heaviest", x.told(1, 6), 3);
        due.is("PATCHES of the other", x.told(0, 6), 0);
        x.ties(0, 0);
        due.is("TIED", x.told(0, 5), 0);
        due.is("TIED", x.told(1, 5), 1);
    }

    private static void as() {
        due.promise("promise 4");
        NineSail x = new NineSail();
        int[] above = {1, 1 | 2, 1 | 4, 1 | 2 | 8, 1 | 4 | 16, 1 | 32};
        for (int kind = 0; kind < 6; kind++) {
            x.boat(kind, 10 + kind, 0);
            for (int as = 0; as < 6; as++) {
                int want = (above[kind] >> as & 1) == 1 ? 10 + kind : NineSail.KIND;
                due.is("as(" + kind + ", " + as + ")", x.as(kind, as), want);
            }
        }
        due.is("as(-1, 0)", x.as(-1, 0), BAD);
        due.is("as(6, 0)", x.as(6, 0), BAD);
        due.is("as(0, 6)", x.as(0, 6), BAD);
        due.is("as(0, -1)", x.as(0, -1), BAD);
    }

    private static void turns() {
        due.promise("promise 5");
        NineSail x = new NineSail();
        x.boat(0, 4, 0);
        due.is("turns(0, 3)", x.turns(0, 3), 0);
        due.is("told(0, 0)", x.told(0, 0), 3);
        due.is("PULLS as LEADER", x.told(0, 7), 102);
        due.is("as(0, 1)", x.as(0, 1), 4);
        due.is("turns(0, 6)", x.turns(0, 6), BAD);
        due.is("turns(0, -1)", x.turns(0, -1), BAD);
        due.is("turns(1, 0)", x.turns(1, 0), BAD);
        due.is("turns(-1, 0)", x.turns(-1, 0), BAD);
        due.is("turns(0, 3)", x.turns(0, 3), 3);
        due.is("turns(0, 4)", x.turns(0, 4), 3);
        due.is("WORTH as NINTH", x.told(0, 10), 88);
    }

    private static void set() {
        due.promise("promise 6");
        NineSail x = new NineSail();
        x.boat(0, 4, 7);
        due.is("set(0, 1, 50)", x.set(0, 1, 50), 4);
        due.is("set(0, 1, 1)", x.set(0, 1, 1), 50);
        due.is("set(0, 2, 9999)", x.set(0, 2, 9999), 0);
        due.is("set(0, 2, 0)", x.set(0, 2, 0), 9999);
        due.is("set(0, 2, 12)", x.set(0, 2, 12), 0);
        due.is("set(0, 3, 9999)", x.set(0, 3, 9999), 7);
        due.is("set(0, 3, 0)", x.set(0, 3, 0), 9999);
        due.is("set(0, 3, 13)", x.set(0, 3, 13), 0);
        int[][] bad = {{0, 1, 0}, {0, 1, 51}, {0, 2, -1}, {0, 2, 10000}, {0, 3, -1}, {0, 3, 10000}, {0, 0, 1},
            {0, 4, 1}, {1, 1, 1}, {-1, 1, 1}};
        for (int[] b : bad) {
            due.is("set(" + b[0] + ", " + b[1] + ", " + b[2] + ")", x.set(b[0], b[1], b[2]), BAD);
        }
        due.is("WEIGHT", x.told(0, 1), 1);
        due.is("PLACE", x.told(0, 2), 12);
        due.is("WANT", x.told(0, 3), 13);
    }

    private static void ties() {
        due.promise("promise 7");
        NineSail x = new NineSail();
        x.boat(0, 4, 0);
        x.boat(0, 20, 0);
        due.is("speed()", x.speed(), 41);
        due.is("ties(1, 0)", x.ties(1, 0), 1);
        due.is("ties(1, 0)", x.ties(1, 0), 0);
        due.is("fleet(5)", x.fleet(5), 1);
        due.is("speed()", x.speed(), 46);
        due.is("ties(1, 2)", x.ties(1, 2), BAD);
        due.is("ties(1, -1)", x.ties(1, -1), BAD);
        due.is("ties(2, 1)", x.ties(2, 1), BAD);
        due.is("ties(-1, 1)", x.ties(-1, 1), BAD);
        due.is("ties(1, 1)", x.ties(1, 1), 0);
        due.is("ties(1, 1)", x.ties(1, 1), 1);
        due.is("fleet(5)", x.fleet(5), 3);
    }

    private static void hands() {
        due.promise("promise 8");
        NineSail x = new NineSail();
        due.is("hands(0) without boats", x.hands(0), BAD);
        x.boat(0, 4, 0);
        x.boat(0, 4, 0);
        x.rule(2, 99);
        x.hours(4);
        due.is("SINCE", x.fleet(4), 4);
        due.is("hands(2)", x.hands(2), BAD);
        due.is("hands(-1)", x.hands(-1), BAD);
        due.is("SINCE stays", x.fleet(4), 4);
        due.is("hands(1)", x.hands(1), 0);
        due.is("SINCE", x.fleet(4), 0);
        due.is("the sail", x.fleet(3), 1);
        x.hours(2);
        due.is("hands(1) by itself", x.hands(1), 1);
        due.is("SINCE", x.fleet(4), 0);
    }

    private static void rule() {
        due.promise("promise 9");
        NineSail x = new NineSail();
        int[] first = {5, 0, 3, 4, 0};
        int[] least = {0, 0, 1, 0, 0};
        int[] most = {9, 2, 99, 99, 100};
        for (int what = 0; what < 5; what++) {
            String rule = "rule(" + what + ", ";
            due.is(rule + "least - 1)", x.rule(what, least[what] - 1), BAD);
            due.is(rule + "most + 1)", x.rule(what, most[what] + 1), BAD);
            due.is(rule + "MIN)", x.rule(what, Integer.MIN_VALUE), BAD);
            due.is(rule + "most)", x.rule(what, most[what]), first[what]);
            due.is("count", x.count(2 + what), most[what]);
            due.is(rule + "least)", x.rule(what, least[what]), most[what]);
            due.is("count", x.count(2 + what), least[what]);
        }
        due.is("rule(-1, 1)", x.rule(-1, 1), BAD);
        due.is("rule(5, 1)", x.rule(5, 1), BAD);
    }

    private static void deal() {
        due.promise("promise 10");
        NineSail x = new NineSail();
        due.is("deal(0)", x.deal(0), BAD);
        due.is("deal(10)", x.deal(10), BAD);
        due.is("deal(-1)", x.deal(-1), BAD);
        due.is("no draw", x.count(10), 1);
        x.boat(0, 1, 1);
        x.seed(-77);
        due.is("deal(3)", x.deal(3), 3);
        Draws d = new Draws(-77);
        for (int k = 1; k < 4; k++) {
            dealt(x, d, k);
        }
        due.is("z", x.count(10), d.z());
        due.is("deal(9)", x.deal(9), 5);
        for (int k = 4; k < 9; k++) {
            dealt(x, d, k);
        }
        due.is("z", x.count(10), d.z());
        due.is("deal(1)", x.deal(1), 0);
        due.is("deal(0) when full", x.deal(0), BAD);
        due.is("z, no draws for others", x.count(10), d.z());
    }

    private static void dealt(NineSail x, Draws d, int k) {
        due.is("KIND of " + k, x.told(k, 0), d.next() % 6);
        due.is("WEIGHT of " + k, x.told(k, 1), 1 + d.next() % 20);
        due.is("WANT of " + k, x.told(k, 3), d.next() % 500);
        due.is("PLACE of " + k, x.told(k, 2), 0);
        due.is("TIED of " + k, x.told(k, 5), 1);
    }

    private static void seed() {
        due.promise("promise 11");
        NineSail x = new NineSail();
        due.is("seed(-5)", x.seed(-5), 1);
        due.is("count(10)", x.count(10), -5);
        due.is("seed(MIN)", x.seed(Integer.MIN_VALUE), -5);
        due.is("seed(NONE)", x.seed(NineSail.NONE), Integer.MIN_VALUE);
        due.is("count(10)", x.count(10), NineSail.NONE);
    }
}
