/** The boundary cases of Terms 2 and of promises 13 and 14, sentence by sentence. */
public final class EdgesHoursTest extends Edges {
    public static void main(String[] args) {
        testAll(EdgesHoursTest.class);
    }

    /** A laden object in its last hour. */
    private static void ladenInTheLastHour(Run x) {
        laden(x);
        late(x, 87);
    }

    private static int windAndRest(int wind, int rest) {
        return Draws.forHours(new int[] {wind}, new int[] {rest});
    }

    // ---- Terms 2

    @Sentence(of = "Terms 2", words = "AN HOUR (without BOATS nothing but (1), the draw of (2), and the hour):")
    static void withoutBoats() {
        for (int law = 0; law < 3; law++) {
            Run x = run().does("rule", 4, 100).does("rule", 1, law).does("rule", 2, 1).does("seed", Draws.forWinds(3, 0));
            Draws d = new Draws(Draws.forWinds(3, 0));
            d.next();
            d.next();
            x.is(0, "hours", 1).is(3, "count", 2).is(d.z(), "count", 10).is(1, "count", 1);
            x.is(0, "fleet", 2).is(0, "fleet", 3).is(0, "fleet", 4);
            d.next();
            d.next();
            x.is(0, "hours", 1).is(0, "count", 2).is(d.z(), "count", 10).is(2, "count", 1);
            x.is(0, "fleet", 0).is(0, "fleet", 1).is(0, "fleet", 2).is(0, "fleet", 4);
            x.is(law, "count", 3).is(1, "count", 4).is(4, "count", 5).is(100, "count", 6);
        }
    }

    @Sentence(of = "Terms 2", words = "(1) A draw; WIND is its rest by 10.")
    static void windIsARest() {
        for (int wind = 0; wind <= 9; wind++) {
            boats(1).does("seed", Draws.forWinds(wind)).does("hours", 1).is(wind, "count", 2);
        }
        // z becomes 1103527590, a draw of 4310654; from 2 it becomes 2207042835 (less 2^32), a draw of 8621261.
        run().does("seed", 1).does("hours", 1).is(4, "count", 2);
        run().does("seed", 2).does("hours", 1).is(1, "count", 2);
    }

    @Sentence(of = "Terms 2", words = "(2) A draw; if its rest by 100 is below STORM:")
    static void restBelowStorm() {
        int[][] cases = {{0, 0, 0}, {0, 1, 1}, {1, 1, 0}, {40, 40, 0}, {40, 41, 1}, {99, 99, 0}, {99, 100, 1}};
        for (int[] c : cases) {
            Run x = boats(1).does("rule", 4, c[1]).does("seed", windAndRest(5, c[0])).does("hours", 1);
            x.is(c[2], "told", 0, 6).is(1 + 5 * c[2], "fleet", 2);
        }
    }

    @Sentence(of = "Terms 2", words = "THE SAIL goes to the heaviest BOAT (of several the least number;")
    static void heaviest() {
        for (int k = 0; k < 9; k++) {
            Run x = boats(9).does("rule", 4, 100).does("rule", 2, 99).does("set", k, 1, 2);
            x.does("hours", 1).is(k, "fleet", 3).is(1, "told", k, 6);
        }
        Run x = boats(9).does("rule", 4, 100).does("rule", 2, 99).does("hands", 8).does("hours", 1).is(0, "fleet", 3);
        x.does("set", 3, 1, 50).does("set", 7, 1, 50).does("hours", 1).is(3, "fleet", 3).is(1, "told", 3, 6).is(0, "told", 7, 6);
        // It has the sail before all move: a TENT would pull nothing.
        Run y = run().does("boat", 5, 1, 0).does("boat", 0, 9, 0).does("rule", 4, 100).does("seed", Draws.forWinds(2));
        y.does("hours", 1).is(11, "told", 0, 2).is(11, "told", 1, 2).is(2, "told", 0, 4).is(0, "told", 1, 4);
    }

    @Sentence(of = "Terms 2", words = "SINCE is 0 then, also if it had it)")
    static void sinceBehindAStorm() {
        Run x = boats(2).does("rule", 2, 99).does("hours", 2).is(2, "fleet", 4).does("rule", 4, 100);
        x.does("hours", 1).is(0, "fleet", 3).is(1, "fleet", 4).does("hours", 1).is(1, "fleet", 4);
        // So TURN is not come to, and pull sees SINCE 0.
        Run y = boats(2).does("hours", 2).does("rule", 4, 100).does("hours", 1).is(0, "fleet", 3).is(1, "fleet", 4);
        y.text("pull s*50+1");
        int was = y.ask("told", 0, 2);
        y.does("seed", Draws.forWinds(5)).does("hours", 1).is(was + 1, "told", 0, 2);
        Run z = boats(2).does("set", 1, 1, 9).does("hours", 2).does("rule", 4, 100).does("hours", 1).is(1, "fleet", 4);
        z.is(1, "fleet", 3);
        // A TURN of 1 is come to in the same hour.
        boats(3).does("set", 1, 1, 9).does("rule", 2, 1).does("rule", 4, 100).does("hours", 1).is(2, "fleet", 3).is(0, "fleet", 4);
    }

    @Sentence(of = "Terms 2", words = "WEAR is 5 more, its PATCHES are 1 more.")
    static void wearOfAStorm() {
        Run x = boats(3).does("set", 1, 1, 9).does("rule", 4, 100).does("seed", Draws.forWinds(0, 9));
        x.does("hours", 1).is(6, "fleet", 2).is(1, "told", 1, 6).is(0, "told", 0, 6).is(0, "told", 2, 6);
        x.does("hours", 1).is(12, "fleet", 2).is(2, "told", 1, 6).is(0, "told", 0, 6);
    }

    @Sentence(of = "Terms 2", words = "(3) If WIND is 0 all rest (a calm; nothing moves);")
    static void calm() {
        // A PROUD one pulls 5 and rows 4 without wind, but not in a calm.
        Run x = run().does("boat", 1, 1, 0).does("boat", 1, 1, 0).does("boat", 0, 1, 0).does("ties", 1, 0);
        x.does("seed", Draws.forWinds(0, 1)).does("hours", 1).is(0, "fleet", 1);
        x.does("hours", 1).is(14, "told", 0, 2).is(4, "told", 1, 2).is(14, "told", 2, 2);
        // WIND is that of the hour, not the one that was.
        Run y = boats(1).does("rule", 0, 0).does("seed", Draws.forWinds(2)).does("hours", 1).is(19, "told", 0, 2);
        y.does("rule", 0, 9).does("seed", Draws.forWinds(0)).does("hours", 1).is(19, "told", 0, 2);
        Run z = boats(1).does("seed", Draws.forWinds(0)).does("rule", 2, 99).does("hours", 1);
        z.is(1, "fleet", 2).is(1, "fleet", 4).is(1, "count", 1);
    }

    @Sentence(of = "Terms 2", words = "else the one that has THE SAIL, and all others that are TIED, move on by SPEED (9999 at most),")
    static void movesBySpeed() {
        int[][] places = {{9979, 9998}, {9980, 9999}, {9981, 9999}, {9999, 9999}, {0, 19}};
        for (int[] p : places) {
            for (int k = 0; k < 3; k++) {
                Run x = boats(3).does("set", k, 2, p[0]).does("ties", 0, 0).does("seed", Draws.forWinds(2));
                x.does("hours", 1).is(p[1], "told", k, 2).is(19, "told", (k + 1) % 3, 2);
            }
        }
        Run x = run().does("boat", 0, 1, 0).does("boat", 0, 50, 0).does("seed", Draws.forWinds(1)).does("hours", 1);
        x.is(0, "told", 0, 2).is(0, "told", 1, 2);
    }

    @Sentence(of = "Terms 2", words = "those that are CUT (and have it not) by what they ROW.")
    static void rows() {
        int[][] places = {{0, 4}, {9994, 9998}, {9995, 9999}, {9996, 9999}, {9999, 9999}};
        for (int[] p : places) {
            Run x = boats(1).does("boat", 1, 1, 0).does("ties", 1, 0).does("set", 1, 2, p[0]).does("seed", Draws.forWinds(9));
            x.does("hours", 1).is(p[1], "told", 1, 2).is(89, "told", 0, 2);
        }
        Run y = boats(1).does("boat", 1, 1, 0).does("ties", 1, 0).does("hands", 1).does("seed", Draws.forWinds(9));
        y.does("hours", 1).is(94, "told", 1, 2).is(94, "told", 0, 2);
    }

    @Sentence(of = "Terms 2", words = "(4) CATCH of each that has not THE SAIL is more by FISH, if it is TIED by half of it (cut).")
    static void fishes() {
        int[][] fish = {{0, 0, 0}, {1, 1, 0}, {2, 2, 1}, {3, 3, 1}, {98, 98, 49}, {99, 99, 49}};
        for (int[] f : fish) {
            Run x = boats(3).does("rule", 3, f[0]).does("ties", 1, 0).does("rule", 2, 99);
            x.is(f[1] + f[2], "hours", 1).is(0, "told", 0, 4).is(f[1], "told", 1, 4).is(f[2], "told", 2, 4);
            x.does("ties", 0, 0).is(f[1] + f[2], "hours", 1).is(0, "told", 0, 4);
        }
        // Who has the sail while the hour passes is meant, not who gets it at its end, and behind a storm who got it then.
        boats(2).does("rule", 2, 1).is(2, "hours", 1).is(1, "fleet", 3).is(2, "told", 1, 4).is(0, "told", 0, 4);
        Run y = boats(2).does("set", 1, 1, 9).does("rule", 4, 100).is(2, "hours", 1).is(2, "told", 0, 4).is(0, "told", 1, 4);
        y.is(1, "fleet", 3);
    }

    @Sentence(of = "Terms 2", words = "(5) WEAR is 1 more, SINCE 1 more.")
    static void wearAndSince() {
        Run x = boats(1).does("rule", 2, 99);
        for (int h = 1; h <= 98; h++) {
            x.does("hours", 1).is(h, "fleet", 2).is(h, "fleet", 4);
        }
    }

    @Sentence(of = "Terms 2", words = "(6) THE SAIL goes on (SINCE is 0 then), by LAW 0: if SINCE is TURN or more,")
    static void lawOfTurns() {
        for (int turn : new int[] {1, 2, 3, 98, 99}) {
            Run x = boats(2).does("rule", 2, turn);
            if (turn > 1) {
                x.does("hours", turn - 1).is(0, "fleet", 3).is(turn - 1, "fleet", 4);
            }
            x.does("hours", 1).is(1, "fleet", 3).is(0, "fleet", 4);
        }
        boats(2).does("rule", 2, 99).does("hours", 9).does("rule", 2, 5).does("hours", 1).is(1, "fleet", 3).is(0, "fleet", 4);
        boats(2).does("rule", 2, 99).does("hours", 98).does("hours", 1).is(1, "fleet", 3).does("hours", 99).is(0, "fleet", 3);
    }

    @Sentence(of = "Terms 2", words = "to the next number (round);")
    static void round() {
        Run x = boats(9).does("rule", 2, 1);
        for (int k = 1; k <= 19; k++) {
            x.does("hours", 1).is(k % 9, "fleet", 3).is(0, "fleet", 4);
        }
        boats(1).does("rule", 2, 1).does("hours", 1).is(0, "fleet", 3).is(0, "fleet", 4);
        boats(2).does("rule", 2, 1).does("hours", 1).is(1, "fleet", 3).does("hours", 1).is(0, "fleet", 3);
    }

    @Sentence(of = "Terms 2", words = "1: if WIND is below 4, to the BOAT with the least PLACE")
    static void lawOfWind() {
        for (int wind = 0; wind <= 9; wind++) {
            Run x = boats(3).does("rule", 1, 1).does("rule", 2, 1).does("set", 0, 2, 50).does("set", 1, 2, 40);
            x.does("set", 2, 2, 30).does("seed", Draws.forWinds(wind)).does("hours", 1);
            x.is(wind < 4 ? 2 : 0, "fleet", 3).is(wind < 4 ? 0 : 1, "fleet", 4);
        }
        // The places behind the hour count: boat 1 is cut and stays where it is.
        Run y = boats(2).does("rule", 1, 1).does("set", 1, 2, 10).does("ties", 1, 0).does("seed", Draws.forWinds(3));
        y.does("hours", 1).is(29, "told", 0, 2).is(1, "fleet", 3);
    }

    @Sentence(of = "Terms 2", words = "(of several the least number; also the one that has it);")
    static void lawOfWindOfSeveral() {
        Run x = boats(9).does("rule", 1, 1).does("rule", 0, 9).does("hands", 8).does("seed", Draws.forWinds(3));
        x.does("hours", 1).is(0, "fleet", 3).is(0, "fleet", 4);
        Run y = boats(4).does("rule", 1, 1).does("set", 0, 2, 1).does("set", 1, 2, 1).does("seed", Draws.forWinds(0));
        y.does("hours", 1).is(2, "fleet", 3);
        Run own = boats(3).does("rule", 1, 1).does("hands", 1).does("set", 0, 2, 9).does("set", 2, 2, 9);
        own.does("seed", Draws.forWinds(9, 9, 3, 9)).does("hours", 2).is(2, "fleet", 4);
        own.does("hours", 1).is(1, "fleet", 3).is(0, "fleet", 4).does("hours", 1).is(1, "fleet", 4);
    }

    @Sentence(of = "Terms 2", words = "2: to the one with the most still to go (WANT less PLACE; of several the least number),")
    static void lawOfWants() {
        for (int k = 0; k < 9; k++) {
            Run x = boats(9).does("rule", 1, 2).does("rule", 2, 1).does("set", k, 3, 9999).does("seed", Draws.forWinds(5));
            x.does("hours", 1).is(k, "fleet", 3).is(0, "fleet", 4);
        }
        Run y = boats(4).does("rule", 1, 2).does("seed", Draws.forWinds(0, 0, 0));
        y.does("set", 1, 3, 700).does("set", 1, 2, 500).does("set", 2, 3, 300).does("set", 3, 3, 300);
        y.does("hours", 1).is(2, "fleet", 3).is(0, "fleet", 4);
        y.does("set", 1, 2, 400).does("hours", 1).is(1, "fleet", 3).is(0, "fleet", 4);
        // Also if it has it already: THE SAIL goes on, SINCE is 0 then.
        y.does("hours", 1).is(1, "fleet", 3).is(0, "fleet", 4);
    }

    @Sentence(of = "Terms 2", words = "if that is above 0.")
    static void lawOfWantsAbove0() {
        for (int way = -1; way <= 1; way++) {
            Run x = boats(3).does("rule", 1, 2).does("rule", 2, 1).does("seed", Draws.forWinds(0));
            for (int k = 0; k < 3; k++) {
                x.does("set", k, 2, 100).does("set", k, 3, k == 1 ? 100 + way : 50);
            }
            x.does("hours", 1).is(way > 0 ? 1 : 0, "fleet", 3).is(way > 0 ? 0 : 1, "fleet", 4);
        }
        // What is still to go behind the hour counts: 19 less 19, and 20 less 19.
        Run y = boats(2).does("rule", 1, 2).does("set", 1, 3, 19).does("seed", Draws.forWinds(2));
        y.does("hours", 1).is(19, "told", 1, 2).is(0, "fleet", 3).is(1, "fleet", 4);
        Run z = boats(2).does("rule", 1, 2).does("set", 1, 3, 20).does("seed", Draws.forWinds(2));
        z.does("hours", 1).is(1, "fleet", 3).is(0, "fleet", 4);
    }

    @Sentence(of = "Terms 2", words = "THE HOUR is 1 more.")
    static void hourIsMore() {
        boats(1).does("hours", 1).is(1, "count", 1).does("hours", 99).is(100, "count", 1);
        run().does("hours", 1).is(1, "count", 1);
    }

    @Sentence(of = "Terms 2", words = "z is told (1 at first).")
    static void zAtFirst() {
        run().is(1, "count", 10).is(1, "seed", 3).is(3, "count", 10);
    }

    @Sentence(of = "Terms 2", words = "A draw: z becomes z * 1103515245 + 12345 (an int); it gives z >>> 8.")
    static void drawsWrap() {
        // The two draws of an hour without boats, from each z, in whole numbers without a bound.
        for (int from : new int[] {0, 1, 2, -1, MIN, MAX, 123456789}) {
            long first = Math.floorMod(from * 1103515245L + 12345, 1L << 32);
            long second = Math.floorMod(first * 1103515245L + 12345, 1L << 32);
            run().does("seed", from).does("hours", 1).is((int) second, "count", 10).is((int) (first / 256 % 10), "count", 2);
        }
        // With the highest bit set the draw is not below 0: z -1 would give -1 by >>, and 16777215 by >>>.
        int before = 0;
        while (before * 1103515245 + 12345 != -1) {
            before++;
        }
        run().does("seed", before).does("hours", 1).is(5, "count", 2);
        run().does("seed", before).is(1, "deal", 1).is(16777215 % 6, "told", 0, 0);
    }

    @Sentence(of = "Terms 2", words = "BOATS that are drawn: KIND the rest of a draw by 6, WEIGHT 1 and that of one more by 20, WANT that of "
        + "one more by 500.")
    static void drawnBoats() {
        int[][] corners = {{0, 0, 0}, {5, 19, 499}};
        for (int[] c : corners) {
            int z = 0;
            while (!draws(z, c)) {
                z++;
            }
            run().does("seed", z).is(1, "deal", 1).is(c[0], "told", 0, 0).is(1 + c[1], "told", 0, 1).is(c[2], "told", 0, 3);
        }
        Run x = run().does("seed", 99).is(9, "deal", 9);
        Draws d = new Draws(99);
        for (int k = 0; k < 9; k++) {
            x.is(d.next() % 6, "told", k, 0).is(1 + d.next() % 20, "told", k, 1).is(d.next() % 500, "told", k, 3);
        }
    }

    private static boolean draws(int z, int[] rests) {
        Draws d = new Draws(z);
        return d.next() % 6 == rests[0] && d.next() % 20 == rests[1] && d.next() % 500 == rests[2];
    }

    // ---- Promise 13

    @Sentence(of = "Promise 13", words = "n (1 .. 100) HOURS")
    static void oneToAHundred() {
        boats(2).is(2, "hours", 1).is(1, "count", 1);
        boats(2).is(200, "hours", 100).is(100, "count", 1);
        boats(2).is(BAD, "hours", 0).is(BAD, "hours", 101).is(0, "count", 1);
    }

    @Sentence(of = "Promise 13", words = "(no more than up to 9999)")
    static void noMoreThanUpTo9999() {
        run(x -> late(x, 98)).does("deal", 2).is(2, "hours", 1).is(9999, "count", 1);
        run(x -> late(x, 98)).does("deal", 2).is(2, "hours", 2).is(9999, "count", 1).is(1, "fleet", 2);
        run(x -> late(x, 98)).does("deal", 2).is(2, "hours", 100).is(9999, "count", 1).is(1, "fleet", 2);
        run(x -> late(x, 0)).does("deal", 2).is(198, "hours", 99).is(9999, "count", 1).is(99, "fleet", 2);
        run(x -> late(x, 0)).does("deal", 2).is(198, "hours", 100).is(9999, "count", 1).is(99, "fleet", 2);
        run(EdgesHoursTest::ladenInTheLastHour).is(9999, "count", 1);
        still(EdgesHoursTest::ladenInTheLastHour, 0, "hours", 1);
        still(EdgesHoursTest::ladenInTheLastHour, 0, "hours", 100);
    }

    @Sentence(of = "Promise 13", words = "CATCH of all in them, together.")
    static void catchInThem() {
        Run x = boats(3).does("ties", 2, 0).does("rule", 2, 99).is(6, "hours", 1).is(12, "hours", 2).is(18, "fleet", 0);
        x.does("rule", 3, 0).is(0, "hours", 1).is(18, "fleet", 0);
        run().is(0, "hours", 100);
        boats(1).is(0, "hours", 100);
        Run y = boats(9).does("rule", 3, 99).does("rule", 2, 1);
        for (int k = 0; k < 9; k++) {
            y.does("ties", k, 0);
        }
        y.is(100 * 8 * 99, "hours", 100);
    }

    @Sentence(of = "Promise 13", words = "BAD.")
    static void hoursBad() {
        for (int n : new int[] {0, 101, -1, MIN, MAX}) {
            still(Edges::laden, BAD, "hours", n);
        }
        still(EdgesHoursTest::ladenInTheLastHour, BAD, "hours", 0);
        still(EdgesHoursTest::ladenInTheLastHour, BAD, "hours", 101);
    }

    // ---- Promise 14

    @Sentence(of = "Promise 14", words = "What was 0 CATCH of all, together, 1 PLACES of all, together, 2 WEAR, 3 who has THE SAIL, 4 SINCE,")
    static void fleetSums() {
        for (int what = 0; what <= 4; what++) {
            run().is(0, "fleet", what);
        }
        Run x = boats(9).does("ties", 8, 0).does("rule", 4, 100).does("rule", 2, 99).does("seed", Draws.forWinds(0));
        for (int k = 0; k < 9; k++) {
            x.does("set", k, 2, 9999);
        }
        x.does("set", 7, 1, 2).does("hours", 1);
        x.is(7 * 2 + 4, "fleet", 0).is(9 * 9999, "fleet", 1).is(6, "fleet", 2).is(7, "fleet", 3).is(1, "fleet", 4);
    }

    @Sentence(of = "Promise 14", words = "5 those that are TIED, as a set,")
    static void tiedAsASet() {
        run().is(0, "fleet", 5);
        Run x = boats(1).is(1, "fleet", 5).does("ties", 0, 0).is(0, "fleet", 5);
        x.does("boat", 0, 1, 0).is(2, "fleet", 5);
        boats(9).is(511, "fleet", 5).does("ties", 8, 0).is(255, "fleet", 5).does("ties", 0, 0).is(254, "fleet", 5);
    }

    @Sentence(of = "Promise 14", words = "6 those that are at their WANT or behind it, as a set.")
    static void homeAsASet() {
        run().is(0, "fleet", 6);
        Run x = boats(9).is(511, "fleet", 6);
        for (int k = 0; k < 9; k++) {
            x.does("set", k, 3, 10).does("set", k, 2, 8 + k % 3);
        }
        x.is(0b100100100, "fleet", 6);
        x.does("set", 8, 2, 11).is(0b100100100, "fleet", 6).does("set", 7, 2, 9999).is(0b110100100, "fleet", 6);
    }

    @Sentence(of = "Promise 14", words = "BAD.")
    static void fleetBad() {
        for (int what : new int[] {-1, 7, MIN, MAX}) {
            still(Edges::laden, BAD, "fleet", what);
        }
        for (int what = 0; what <= 6; what++) {
            still(Edges::laden, run(Edges::laden).ask("fleet", what), "fleet", what);
        }
    }
}
