/** Promises 15 to 23: what is only thought; every call is tested to change nothing. */
public final class ThoughtTest {
    private static final int BAD = NineSail.BAD;
    private static final int NONE = NineSail.NONE;
    private static final Due due = new Due("ThoughtTest");

    public static void main(String[] args) {
        behind();
        home();
        homeInTheLastHour();
        bestLaw();
        bestLawOfSeveral();
        turned();
        cutOff();
        wishes();
        whose();
        whoseByShortsAndFloats();
        whoseBeyondAllBoats();
        whoseBeyondBoatsThatWere();
        feeAndFine();
        nothingChanges();
        due.end();
    }

    private static NineSail four() {
        NineSail x = new NineSail();
        x.boat(0, 10, 200);
        x.boat(1, 5, 100);
        x.boat(2, 8, 300);
        x.boat(4, 20, 50);
        return x;
    }

    /** Boats that differ in every way, some hours on. */
    private static NineSail seven(int seed) {
        NineSail x = new NineSail();
        x.seed(seed);
        x.deal(7);
        x.rule(4, 15);
        x.rule(3, 11);
        x.ties(2, 0);
        x.ties(5, 0);
        x.hours(5);
        return x;
    }

    private static void behind() {
        due.promise("promise 15");
        for (int n = 0; n <= 100; n += n < 5 ? 1 : 19) {
            NineSail x = seven(4711);
            int[] thought = new int[10];
            for (int what = 0; what < 10; what++) {
                thought[what] = x.behind(n, what);
            }
            if (n > 0) {
                x.hours(n);
            }
            due.is("behind(" + n + ", 0)", thought[0], x.fleet(0));
            due.is("behind(" + n + ", 1)", thought[1], x.fleet(3));
            due.is("behind(" + n + ", 2)", thought[2], x.fleet(2));
            for (int k = 0; k < 7; k++) {
                due.is("behind(" + n + ", " + (3 + k) + ")", thought[3 + k], x.told(k, 2));
            }
        }
        NineSail x = four();
        due.is("behind(-1, 0)", x.behind(-1, 0), BAD);
        due.is("behind(101, 0)", x.behind(101, 0), BAD);
        due.is("behind(0, -1)", x.behind(0, -1), BAD);
        due.is("behind(0, 7)", x.behind(0, 7), BAD);
        due.is("behind(0, MIN)", x.behind(0, Integer.MIN_VALUE), BAD);
        due.is("behind(0, MAX)", x.behind(0, Integer.MAX_VALUE), BAD);
        NineSail none = new NineSail();
        due.is("behind(100, 0) without boats", none.behind(100, 0), 0);
        due.is("behind(100, 3) without boats", none.behind(100, 3), BAD);
    }

    private static void home() {
        due.promise("promise 16");
        NineSail x = new NineSail();
        due.is("home() without boats", x.home(), 0);
        x.boat(0, 10, 0);
        due.is("home(): all are", x.home(), 0);
        x.seed(Draws.forWinds(5, 0, 3, 9));
        x.set(0, 3, 40);
        due.is("home(): right at its want", x.home(), 1);
        x.set(0, 3, 41);
        due.is("home(): a calm between", x.home(), 3);
        x.set(0, 3, 60);
        due.is("home(): 40 and 20", x.home(), 3);
        x.set(0, 3, 61);
        due.is("home(): one more", x.home(), 4);
        x.boat(5, 1, 1);
        x.ties(1, 0);
        x.rule(2, 99);
        due.is("home(): a TENT that is cut never comes", x.home(), NONE);
        x.set(1, 2, 1);
        due.is("home(): it is there", x.home(), 4);
    }

    /** A NINTH that is cut rows 1 an hour but in calms, while storms keep the sail with the heaviest. */
    private static void homeInTheLastHour() {
        due.promise("promise 16");
        int z = 0;
        while (!rowsIn(z, 300) || !rowsIn(z, 301)) {
            z++;
        }
        NineSail x = new NineSail();
        x.boat(5, 50, 0);
        x.boat(4, 1, 0);
        x.ties(1, 0);
        x.rule(4, 100);
        x.seed(z);
        x.set(1, 3, rowed(z, 300));
        due.is("home() in the last hour", x.home(), 300);
        x.set(1, 3, rowed(z, 300) + 1);
        due.is("home() an hour too late", x.home(), NONE);
    }

    private static int rowed(int z, int hours) {
        Draws d = new Draws(z);
        int way = 0;
        for (int h = 0; h < hours; h++) {
            way += d.next() % 10 == 0 ? 0 : 1;
            d.next();
        }
        return way;
    }

    private static boolean rowsIn(int z, int hour) {
        return rowed(z, hour) > rowed(z, hour - 1);
    }

    private static int lawSum(NineSail x, int law, int n) {
        x.keep();
        x.rule(1, law);
        x.hours(n);
        int sum = x.fleet(0) + x.fleet(1);
        x.back();
        return sum;
    }

    private static void bestLaw() {
        due.promise("promise 17");
        boolean[] seen = new boolean[3];
        for (int n = 1; n <= 60; n++) {
            NineSail x = seven(n);
            int best = 0;
            for (int law = 1; law < 3; law++) {
                if (lawSum(x, law, n) > lawSum(x, best, n)) {
                    best = law;
                }
            }
            seen[best] = true;
            due.is("bestLaw(" + n + ", 0)", x.bestLaw(n, 0), best);
            due.is("bestLaw(" + n + ", 1)", x.bestLaw(n, 1), lawSum(x, best, n));
        }
        due.holds("each law was best once", seen[0] && seen[1] && seen[2]);
        NineSail x = seven(1);
        due.is("bestLaw(0, 0)", x.bestLaw(0, 0), BAD);
        due.is("bestLaw(61, 0)", x.bestLaw(61, 0), BAD);
        due.is("bestLaw(1, 2)", x.bestLaw(1, 2), BAD);
        due.is("bestLaw(1, -1)", x.bestLaw(1, -1), BAD);
    }

    private static void bestLawOfSeveral() {
        due.promise("promise 17");
        NineSail x = new NineSail();
        due.is("bestLaw(60, 0) without boats", x.bestLaw(60, 0), 0);
        due.is("bestLaw(60, 1) without boats", x.bestLaw(60, 1), 0);
        x.boat(0, 10, 10);
        x.rule(1, 2);
        due.is("of several the least, whatever LAW is now", x.bestLaw(9, 0), 0);
        x.boat(5, 10, 10);
        x.seed(Draws.forWinds(1, 9));
        x.set(0, 2, 100);
        // The sail with the TENT pulls nothing; LAW 0 keeps it with the BOAT, by LAWS 1 and 2 the TENT gets it.
        due.is("bestLaw(2, 0)", x.bestLaw(2, 0), 0);
        x.hands(1);
        x.set(1, 2, 200);
        x.set(0, 3, 9999);
        // With LAW 1 and 2 the BOAT gets it behind the first hour.
        due.is("bestLaw(2, 0): of several the least", x.bestLaw(2, 0), 1);
    }

    private static void turned() {
        due.promise("promise 18");
        NineSail x = new NineSail();
        due.is("turned(1, 0) without boats", x.turned(1, 0), NONE);
        due.is("turned(0, 0) without boats", x.turned(0, 0), BAD);
        due.is("turned(1, 2) without boats", x.turned(1, 2), BAD);
        for (int n = 1; n <= 40; n += 3) {
            x = seven(n);
            x.rule(1, 2);
            int best = 0;
            int most = -1;
            for (int turn = 1; turn <= 20; turn++) {
                int least = leastPlace(x, turn, n);
                if (least > most) {
                    most = least;
                    best = turn;
                }
            }
            due.is("turned(" + n + ", 0)", x.turned(n, 0), best);
            due.is("turned(" + n + ", 1)", x.turned(n, 1), most);
        }
        due.is("turned(0, 0)", x.turned(0, 0), BAD);
        due.is("turned(41, 0)", x.turned(41, 0), BAD);
        due.is("turned(1, 2)", x.turned(1, 2), BAD);
        due.is("turned(1, -1)", x.turned(1, -1), BAD);
        turnedToTheLast();
    }

    /** The TENT in the second place would stop all: the longer boat 0 keeps the sail the better, up to 20 hours. */
    private static void turnedToTheLast() {
        NineSail x = new NineSail();
        x.boat(0, 1, 0);
        x.boat(5, 1, 0);
        x.seed(Draws.forWinds(5, 5, 5));
        due.is("turned(3, 0)", x.turned(3, 0), 3);
        due.is("turned(3, 1)", x.turned(3, 1), 147);
        int z = 0;
        while (windOf(z, 20) < 2 || windOf(z, 21) < 2) {
            z++;
        }
        x.seed(z);
        due.is("turned(21, 0): 21 would be better, but is beyond", x.turned(21, 0), 20);
        NineSail y = new NineSail();
        y.boat(0, 1, 0);
        due.is("of several the least", y.turned(40, 0), 1);
    }

    private static int windOf(int z, int hour) {
        Draws d = new Draws(z);
        for (int i = 0; i < 2 * (hour - 1); i++) {
            d.next();
        }
        return d.next() % 10;
    }

    private static int leastPlace(NineSail x, int turn, int n) {
        x.keep();
        x.rule(1, 0);
        x.rule(2, turn);
        x.hours(n);
        int least = x.told(0, 2);
        for (int k = 1; k < x.count(0); k++) {
            least = Math.min(least, x.told(k, 2));
        }
        x.back();
        return least;
    }

    private static void cutOff() {
        due.promise("promise 19");
        boolean some = false;
        boolean notAll = false;
        for (int n = 60; n >= 1; n -= 4) {
            NineSail x = seven(n);
            int bits = 0;
            for (int k = 0; k < 7; k++) {
                if (x.told(k, 5) == 1 && gain(x, k, n, true) > gain(x, k, n, false)) {
                    bits |= 1 << k;
                }
            }
            some |= bits != 0;
            notAll |= bits != x.fleet(5);
            due.is("cutOff(" + n + ")", x.cutOff(n), bits);
        }
        due.holds("some cut their lines, not all", some && notAll);
        NineSail x = seven(1);
        due.is("cutOff(0)", x.cutOff(0), BAD);
        due.is("cutOff(61)", x.cutOff(61), BAD);
        due.is("cutOff(60) without boats", new NineSail().cutOff(60), 0);
        NineSail y = new NineSail();
        y.boat(5, 1, 0);
        y.boat(0, 1, 0);
        y.boat(0, 1, 0);
        y.ties(2, 0);
        // Nobody moves by a TENT: who is cut has the whole of FISH; who has the sail has none, as it is and cut.
        y.rule(2, 99);
        due.is("cutOff(5)", y.cutOff(5), 2);
        y.rule(3, 1);
        due.is("cutOff(5): half of 1 is 0", y.cutOff(5), 2);
        y.rule(3, 0);
        due.is("cutOff(5): as much is not more", y.cutOff(5), 0);
    }

    private static int gain(NineSail x, int k, int n, boolean cut) {
        x.keep();
        if (cut) {
            x.ties(k, 0);
        }
        x.hours(n);
        int gain = x.told(k, 4) + x.told(k, 2);
        x.back();
        return gain;
    }

    private static void wishes() {
        due.promise("promise 20");
        due.is("wishes(1, 0) without boats", new NineSail().wishes(1, 0), NONE);
        due.is("wishes(0, 0) without boats", new NineSail().wishes(0, 0), BAD);
        due.is("wishes(1, 2) without boats", new NineSail().wishes(1, 2), BAD);
        NineSail x = seven(0);
        for (int n = 60; n >= 1; n -= 4) {
            x = seven(n);
            x.rule(4, 0);
            int best = 0;
            for (int k = 1; k < 7; k++) {
                if (wished(x, k, n) > wished(x, best, n)) {
                    best = k;
                }
            }
            due.is("wishes(" + n + ", 0)", x.wishes(n, 0), best);
            due.is("wishes(" + n + ", 1)", x.wishes(n, 1), wished(x, best, n));
        }
        due.is("wishes(61, 0)", x.wishes(61, 0), BAD);
        due.is("wishes(0, 0)", x.wishes(0, 0), BAD);
        due.is("wishes(1, 2)", x.wishes(1, 2), BAD);
        due.is("wishes(1, -1)", x.wishes(1, -1), BAD);
        NineSail y = new NineSail();
        y.boat(5, 9, 0);
        y.boat(0, 9, 0);
        y.boat(0, 9, 0);
        y.seed(Draws.forWinds(5));
        due.is("of several the least", y.wishes(1, 0), 1);
        due.is("PLACES then", y.wishes(1, 1), 3 * (41 - 18 / 4));
        wishesOfTheOneThatHasIt();
    }

    /** With SINCE 2 and TURN 3 the next hour would bring the sail to the TENT; who wishes begins with SINCE 0. */
    private static void wishesOfTheOneThatHasIt() {
        NineSail x = new NineSail();
        x.boat(0, 1, 0);
        x.boat(5, 1, 0);
        x.seed(Draws.forWinds(0, 0, 5, 5, 5));
        x.hours(2);
        due.is("SINCE", x.fleet(4), 2);
        due.is("wishes(3, 0)", x.wishes(3, 0), 0);
        due.is("wishes(3, 1)", x.wishes(3, 1), 2 * 3 * 49);
        due.is("behind(3, 3) without the wish", x.behind(3, 3), 49);
    }

    private static int wished(NineSail x, int k, int n) {
        x.keep();
        x.hands(k);
        x.hours(n);
        int sum = x.fleet(1);
        x.back();
        return sum;
    }

    private static void whose() {
        due.promise("promise 21");
        NineSail x = seven(4711);
        due.is("whose(0, 5, 0) of a missing one", x.whose(0, 5, 0), NineSail.NOTHING);
        due.is("whose(0, 61, 0): bad stands first", x.whose(0, 61, 0), BAD);
        for (int sheet = 0; sheet < 4; sheet++) {
            for (int law = 0; law < 3; law++) {
                x.sheet(sheet, sheet % 2, 7);
                x.keep();
                x.rule(1, law);
                x.hours(40);
                for (int k = 0; k < 7; k++) {
                    x.mark(sheet, k, x.told(k, 2));
                }
                x.back();
                due.is("whose(" + sheet + ", 40, 1) by law " + law, x.whose(sheet, 40, 1), 0);
                due.is("whose(" + sheet + ", 40, 0) by law " + law, x.whose(sheet, 40, 0), leastLaw(x, sheet, law));
            }
        }
        due.is("whose(-1, 0, 0)", x.whose(-1, 0, 0), BAD);
        due.is("whose(4, 0, 0)", x.whose(4, 0, 0), BAD);
        due.is("whose(0, -1, 0)", x.whose(0, -1, 0), BAD);
        due.is("whose(0, 61, 0)", x.whose(0, 61, 0), BAD);
        due.is("whose(0, 0, 2)", x.whose(0, 0, 2), BAD);
        due.is("whose(0, 0, -1)", x.whose(0, 0, -1), BAD);
    }

    /** A lower law that comes to the very same places stands ahead. */
    private static int leastLaw(NineSail x, int sheet, int law) {
        for (int lower = 0; lower < law; lower++) {
            x.keep();
            x.rule(1, lower);
            x.hours(40);
            boolean same = x.reads(sheet) == NONE;
            x.back();
            if (same) {
                return lower;
            }
        }
        return law;
    }

    private static void whoseByShortsAndFloats() {
        due.promise("promise 21");
        NineSail x = new NineSail();
        x.boat(0, 1, 0);
        x.boat(0, 1, 0);
        x.set(0, 2, 10);
        x.set(1, 2, 20);
        x.sheet(0, 0, 2);
        due.is("whose(0, 0, 1): 10 and 20", x.whose(0, 0, 1), 30);
        x.mark(0, 0, 15);
        x.mark(0, 1, 15);
        due.is("whose(0, 0, 1): signs left out", x.whose(0, 0, 1), 10);
        x.mark(0, 0, -32768);
        due.is("whose(0, 0, 1): far below", x.whose(0, 0, 1), 32778 + 5);
        x.sheet(1, 1, 4);
        x.mark(1, 0, NONE);
        x.mark(1, 1, -99999);
        due.is("whose(1, 0, 1): numbers alone", x.whose(1, 0, 1), 100019);
        x.mark(1, 2, 7);
        x.mark(1, 3, NONE);
        due.is("whose(1, 0, 1): beyond all boats 7 from 0", x.whose(1, 0, 1), 100026);
        x.sheet(2, 0, 0);
        due.is("whose(2, 60, 0) of no places", x.whose(2, 60, 0), 0);
        due.is("whose(2, 60, 1) of no places", x.whose(2, 60, 1), 0);
        x.sheet(3, 0, 1);
        due.is("whose(3, 0, 1): fewer places than boats", x.whose(3, 0, 1), 10);
    }

    private static void whoseBeyondAllBoats() {
        due.promise("promise 21");
        NineSail x = new NineSail();
        x.sheet(0, 0, 24);
        due.is("whose(0, 60, 1) of 0 everywhere, without boats", x.whose(0, 60, 1), 0);
        x.mark(0, 0, 1);
        x.mark(0, 8, -32768);
        x.mark(0, 23, 32767);
        due.is("whose(0, 0, 1): signs left out, without boats", x.whose(0, 0, 1), 1 + 32768 + 32767);
        due.is("whose(0, 60, 1): the hours change nothing", x.whose(0, 60, 1), 1 + 32768 + 32767);
        due.is("whose(0, 60, 0): alike under each law", x.whose(0, 60, 0), 0);
        x.sheet(1, 1, 24);
        for (int k = 0; k < 24; k++) {
            x.mark(1, k, k % 2 == 0 ? 99999 : NONE);
        }
        due.is("whose(1, 30, 1): numbers alone, without boats", x.whose(1, 30, 1), 12 * 99999);
        x.deal(9);
        x.set(8, 2, 99);
        due.is("whose(1, 0, 1): behind nine boats as well", x.whose(1, 0, 1), 12 * 99999 - 99);
    }

    /** What boats had that an image took away no longer stands across from a place. */
    private static void whoseBeyondBoatsThatWere() {
        due.promise("promise 21");
        NineSail x = new NineSail();
        x.boat(0, 1, 0);
        x.keep();
        x.boat(0, 1, 0);
        x.set(1, 2, 40);
        x.sheet(0, 0, 2);
        x.mark(0, 1, 50);
        due.is("whose(0, 0, 1): 50 from 40", x.whose(0, 0, 1), 10);
        x.back();
        due.is("whose(0, 0, 1): 50 from 0", x.whose(0, 0, 1), 50);
    }

    private static void feeAndFine() {
        due.promise("promises 22, 23");
        NineSail x = four();
        x.hours(4);
        due.is("fee() without a text: WEAR", x.fee(), 4);
        due.is("fine(0) without a text: CATCH", x.fine(0), x.told(0, 4));
        due.is("fine(3) without a text: CATCH", x.fine(3), x.told(3, 4));
        due.is("fine(4)", x.fine(4), BAD);
        due.is("fine(-1)", x.fine(-1), BAD);
    }

    private static void nothingChanges() {
        due.promise("section 3: nothing changes");
        NineSail x = seven(4711);
        x.sheet(0, 1, 9);
        long before = shape(x);
        x.behind(50, 0);
        x.home();
        x.bestLaw(40, 0);
        x.turned(30, 1);
        x.cutOff(30);
        x.wishes(30, 0);
        x.whose(0, 30, 0);
        x.fee();
        x.fine(0);
        due.is("all that is told", shape(x), before);
    }

    private static long shape(NineSail x) {
        long shape = 7;
        for (int what = 0; what <= 10; what++) {
            shape = shape * 31 + x.count(what);
            for (int k = 0; k < x.count(0); k++) {
                shape = shape * 31 + x.told(k, what);
            }
        }
        for (int what = 0; what < 7; what++) {
            shape = shape * 31 + x.fleet(what);
        }
        return shape;
    }
}
