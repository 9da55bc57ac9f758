/** Promises 12 to 14, and the hour of the document's section 2, step by step. */
public final class HoursTest {
    private static final int BAD = NineSail.BAD;
    private static final Due due = new Due("HoursTest");

    public static void main(String[] args) {
        speed();
        hoursRefused();
        hoursWithoutBoats();
        moves();
        rows();
        calm();
        bounds();
        fish();
        storm();
        stormOfSeveral();
        lawOfTurns();
        lawOfWind();
        lawOfWants();
        lastHour();
        fleet();
        due.end();
    }

    private static void speed() {
        due.promise("promise 12");
        NineSail x = new NineSail();
        due.is("speed() without boats", x.speed(), 0);
        x.boat(0, 10, 0);
        due.is("speed() alone", x.speed(), 40);
        x.boat(0, 3, 0);
        due.is("a quarter of 3 is cut", x.speed(), 40);
        x.boat(0, 3, 0);
        due.is("a quarter of 6, together", x.speed(), 39);
        x.boat(2, 1, 0);
        due.is("a quarter of 8", x.speed(), 38);
        x.ties(3, 0);
        due.is("one is cut", x.speed(), 39);
        x.ties(0, 0);
        due.is("who has the sail may be cut", x.speed(), 39);
        x.hands(1);
        due.is("47 less a quarter of 3", x.speed(), 47);
        x.ties(0, 1);
        due.is("47 less a quarter of 13", x.speed(), 44);
        x.rule(0, 0);
        due.is("0 at least", x.speed(), 0);
        x.turns(1, 1);
        x.ties(0, 0);
        due.is("PROUD pulls 5 without wind", x.speed(), 5);
    }

    private static void hoursRefused() {
        due.promise("promise 13");
        NineSail x = new NineSail();
        x.boat(0, 1, 1);
        due.is("hours(0)", x.hours(0), BAD);
        due.is("hours(101)", x.hours(101), BAD);
        due.is("hours(-1)", x.hours(-1), BAD);
        due.is("hours(MIN)", x.hours(Integer.MIN_VALUE), BAD);
        due.is("THE HOUR", x.count(1), 0);
        due.is("z", x.count(10), 1);
    }

    private static void hoursWithoutBoats() {
        due.promise("promise 13");
        NineSail x = new NineSail();
        x.rule(4, 100);
        due.is("hours(3)", x.hours(3), 0);
        Draws d = new Draws(1);
        d.next();
        d.next();
        d.next();
        d.next();
        int wind = d.next() % 10;
        d.next();
        due.is("z", x.count(10), d.z());
        due.is("WIND", x.count(2), wind);
        due.is("THE HOUR", x.count(1), 3);
        due.is("WEAR", x.fleet(2), 0);
        due.is("SINCE", x.fleet(4), 0);
    }

    private static void moves() {
        due.promise("promise 13");
        NineSail x = new NineSail();
        x.boat(0, 10, 500);
        x.boat(0, 8, 0);
        x.boat(5, 8, 0);
        x.seed(Draws.forWinds(7, 2));
        due.is("hours(1)", x.hours(1), 4);
        due.is("WIND", x.count(2), 7);
        for (int k = 0; k < 3; k++) {
            due.is("PLACE of " + k, x.told(k, 2), 70 - 10 - 4);
        }
        due.is("hours(1)", x.hours(1), 4);
        for (int k = 0; k < 3; k++) {
            due.is("PLACE of " + k, x.told(k, 2), 56 + 20 - 10 - 4);
        }
        due.is("SINCE", x.fleet(4), 2);
        due.is("WEAR", x.fleet(2), 2);
        due.is("THE HOUR", x.count(1), 2);
    }

    private static void rows() {
        due.promise("promise 13");
        NineSail x = new NineSail();
        for (int kind = 0; kind < 6; kind++) {
            x.boat(kind, 10, 0);
            x.ties(kind, 0);
        }
        x.boat(0, 5, 0);
        x.hands(5);
        x.seed(Draws.forWinds(9));
        x.hours(1);
        int[] places = {0, 4, 0, 6, 1, 0, 0};
        for (int k = 0; k < 7; k++) {
            due.is("PLACE of " + k + " while a TENT has the sail", x.told(k, 2), places[k]);
        }
        x.hands(1);
        x.seed(Draws.forWinds(3));
        x.hours(1);
        int[] later = {0, 4 + 24, 0, 12, 2, 0, 24};
        for (int k = 0; k < 7; k++) {
            due.is("PLACE of " + k + " while a cut PROUD has the sail", x.told(k, 2), later[k]);
        }
    }

    private static void calm() {
        due.promise("promise 13");
        NineSail x = new NineSail();
        x.boat(1, 3, 0);
        x.boat(1, 3, 0);
        x.ties(1, 0);
        x.seed(Draws.forWinds(0));
        due.is("hours(1): fish are caught in a calm", x.hours(1), 4);
        due.is("PLACE", x.told(0, 2), 0);
        due.is("PLACE of the one that is cut", x.told(1, 2), 0);
        due.is("WEAR", x.fleet(2), 1);
        due.is("SINCE", x.fleet(4), 1);
        due.is("THE HOUR", x.count(1), 1);
    }

    private static void bounds() {
        due.promise("promise 13");
        NineSail x = new NineSail();
        x.boat(0, 1, 0);
        x.boat(1, 1, 0);
        x.boat(0, 1, 0);
        x.ties(1, 0);
        x.set(0, 2, 9990);
        x.set(1, 2, 9997);
        x.set(2, 2, 9910);
        x.seed(Draws.forWinds(9));
        x.hours(1);
        due.is("PLACE, 9999 at most", x.told(0, 2), 9999);
        due.is("PLACE of the one that rows, 9999 at most", x.told(1, 2), 9999);
        due.is("PLACE", x.told(2, 2), 9999);
        x.set(2, 2, 9910);
        x.seed(Draws.forWinds(8));
        x.hours(1);
        due.is("PLACE below 9999", x.told(2, 2), 9989);
    }

    private static void fish() {
        due.promise("promise 13");
        NineSail x = new NineSail();
        x.boat(0, 1, 0);
        x.boat(0, 1, 0);
        x.boat(0, 1, 0);
        x.ties(2, 0);
        x.rule(3, 9);
        x.rule(2, 99);
        due.is("hours(1)", x.hours(1), 4 + 9);
        due.is("CATCH of the one with the sail", x.told(0, 4), 0);
        due.is("CATCH of one that is tied: half, cut", x.told(1, 4), 4);
        due.is("CATCH of one that is cut", x.told(2, 4), 9);
        x.ties(0, 0);
        due.is("hours(2): of these hours alone", x.hours(2), 26);
        due.is("CATCH of the one with the sail, cut", x.told(0, 4), 0);
        due.is("CATCH of all", x.fleet(0), 39);
        x.rule(3, 0);
        due.is("hours(2) without fish", x.hours(2), 0);
    }

    private static void storm() {
        due.promise("promise 13");
        int[] wind = {6};
        int[] rest = {40};
        int z = Draws.forHours(wind, rest);
        NineSail x = new NineSail();
        x.boat(0, 10, 0);
        x.boat(1, 20, 0);
        x.rule(2, 99);
        x.rule(4, 40);
        x.seed(z);
        due.is("hours(1): 40 is not below 40", x.hours(1), 2);
        due.is("WEAR", x.fleet(2), 1);
        due.is("the sail", x.fleet(3), 0);
        x.rule(4, 41);
        x.seed(z);
        x.hours(1);
        due.is("WEAR", x.fleet(2), 1 + 5 + 1);
        due.is("the sail", x.fleet(3), 1);
        due.is("SINCE", x.fleet(4), 1);
        due.is("PATCHES of the heaviest", x.told(1, 6), 1);
        due.is("PATCHES of the other", x.told(0, 6), 0);
        due.is("PLACE: the heaviest pulled already", x.told(0, 2), 50 - 17 / 4 + 45 - 10 / 4);
        due.is("CATCH of the other", x.told(0, 4), 2);
        x.seed(Draws.forHours(new int[] {6, 6}, new int[] {99, 0}));
        x.hours(1);
        due.is("SINCE", x.fleet(4), 2);
        x.hours(1);
        due.is("SINCE is 0, also if it had the sail", x.fleet(4), 1);
        due.is("PATCHES", x.told(1, 6), 2);
    }

    private static void stormOfSeveral() {
        due.promise("promise 13");
        NineSail x = new NineSail();
        x.boat(2, 10, 0);
        x.boat(5, 30, 0);
        x.boat(0, 30, 0);
        x.rule(4, 100);
        x.rule(2, 99);
        x.hours(1);
        due.is("of several the least number", x.fleet(3), 1);
        x.set(0, 1, 31);
        x.hours(1);
        due.is("the heaviest now", x.fleet(3), 0);
    }

    private static void lawOfTurns() {
        due.promise("promise 13");
        NineSail x = new NineSail();
        x.boat(0, 1, 0);
        x.boat(0, 1, 0);
        x.boat(0, 1, 0);
        int[] sails = {0, 0, 1, 1, 1, 2, 2, 2, 0, 0};
        int[] since = {1, 2, 0, 1, 2, 0, 1, 2, 0, 1};
        for (int h = 0; h < sails.length; h++) {
            x.hours(1);
            due.is("the sail behind " + (h + 1), x.fleet(3), sails[h]);
            due.is("SINCE behind " + (h + 1), x.fleet(4), since[h]);
        }
        x.rule(2, 99);
        x.hours(10);
        due.is("SINCE", x.fleet(4), 11);
        x.rule(2, 5);
        x.hours(1);
        due.is("SINCE was TURN or more", x.fleet(3), 1);
        due.is("SINCE", x.fleet(4), 0);
        NineSail y = new NineSail();
        y.boat(0, 1, 0);
        y.rule(2, 2);
        y.hours(3);
        due.is("one boat: round to itself", y.fleet(3), 0);
        due.is("SINCE", y.fleet(4), 1);
    }

    private static void lawOfWind() {
        due.promise("promise 13");
        NineSail x = new NineSail();
        x.boat(0, 1, 0);
        x.boat(0, 1, 0);
        x.boat(0, 1, 0);
        x.set(0, 2, 60);
        x.set(1, 2, 50);
        x.set(2, 2, 50);
        x.rule(1, 1);
        x.rule(2, 1);
        x.seed(Draws.forWinds(4, 3, 3, 9, 0));
        int[] sails = {0, 1, 1, 1, 1};
        int[] since = {1, 0, 0, 1, 0};
        for (int h = 0; h < sails.length; h++) {
            x.hours(1);
            due.is("the sail behind " + (h + 1), x.fleet(3), sails[h]);
            due.is("SINCE behind " + (h + 1), x.fleet(4), since[h]);
        }
    }

    private static void lawOfWants() {
        due.promise("promise 13");
        NineSail x = new NineSail();
        x.boat(0, 1, 100);
        x.boat(0, 1, 300);
        x.boat(0, 1, 300);
        x.rule(1, 2);
        x.seed(Draws.forWinds(9, 0, 9));
        x.hours(1);
        due.is("the most still to go, the least number", x.fleet(3), 1);
        due.is("SINCE", x.fleet(4), 0);
        x.hours(1);
        due.is("it goes to the one that has it", x.fleet(3), 1);
        due.is("SINCE", x.fleet(4), 0);
        x.set(0, 3, 9999);
        x.hours(1);
        due.is("the one with the greatest way", x.fleet(3), 0);
        for (int k = 0; k < 3; k++) {
            x.set(k, 3, 0);
        }
        x.hands(1);
        x.hours(2);
        due.is("none has any way to go", x.fleet(3), 1);
        due.is("SINCE", x.fleet(4), 2);
        NineSail y = new NineSail();
        y.boat(0, 1, 0);
        y.boat(0, 1, 1);
        y.rule(1, 2);
        y.seed(Draws.forWinds(0, 9));
        y.hours(1);
        due.is("a way of 1 is above 0", y.fleet(3), 1);
        NineSail there = new NineSail();
        there.boat(0, 1, 0);
        there.boat(0, 1, 0);
        there.rule(1, 2);
        there.hands(1);
        there.seed(Draws.forWinds(0));
        there.hours(1);
        due.is("a way of 0 is not above 0", there.fleet(3), 1);
        due.is("SINCE", there.fleet(4), 1);
    }

    private static void lastHour() {
        due.promise("promise 13");
        NineSail x = new NineSail();
        x.boat(0, 1, 0);
        x.boat(0, 1, 0);
        for (int i = 0; i < 99; i++) {
            x.hours(100);
        }
        due.is("THE HOUR", x.count(1), 9900);
        due.is("hours(100): 99 of them", x.hours(100), 198);
        due.is("THE HOUR", x.count(1), 9999);
        int z = x.count(10);
        due.is("hours(1): none", x.hours(1), 0);
        due.is("THE HOUR", x.count(1), 9999);
        due.is("z", x.count(10), z);
        due.is("WEAR", x.fleet(2), 9999);
        due.is("behind(100, 2), without that bound", x.behind(100, 2), 10099);
    }

    private static void fleet() {
        due.promise("promise 14");
        NineSail x = new NineSail();
        x.boat(0, 1, 5);
        x.boat(0, 1, 6);
        x.boat(0, 1, 7);
        x.set(0, 2, 6);
        x.set(1, 2, 6);
        x.set(2, 2, 6);
        x.ties(1, 0);
        x.hands(2);
        due.is("PLACES", x.fleet(1), 18);
        due.is("the sail", x.fleet(3), 2);
        due.is("TIED", x.fleet(5), 5);
        due.is("at their WANT or behind it", x.fleet(6), 3);
        x.seed(Draws.forWinds(0));
        x.rule(2, 99);
        x.hours(1);
        due.is("CATCH", x.fleet(0), 2 + 4);
        due.is("WEAR", x.fleet(2), 1);
        due.is("SINCE", x.fleet(4), 1);
        due.is("fleet(-1)", x.fleet(-1), BAD);
        due.is("fleet(7)", x.fleet(7), BAD);
    }
}
