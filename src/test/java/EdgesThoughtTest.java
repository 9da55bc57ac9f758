/** The boundary cases of Terms 3 and of promises 15 to 23, sentence by sentence. */
public final class EdgesThoughtTest extends Edges {
    public static void main(String[] args) {
        testAll(EdgesThoughtTest.class);
    }

    /** With this seed one more hour than 59 makes another set of those that had better cut their lines. */
    private static final int CUT_OFF_SEED = 259;

    /** Boats that differ in every way, some of them cut, some hours on. */
    private static Setup seven(int seed) {
        return x -> {
            x.does("seed", seed).does("deal", 7).does("rule", 4, 15).does("rule", 3, 11);
            x.does("ties", 2, 0).does("ties", 5, 0).does("hours", 5);
        };
    }

    /** The last hour of all has come before any boat. */
    private static Run last() {
        return run(x -> late(x, 99)).is(9999, "count", 1);
    }

    // ---- Terms 3

    @Sentence(of = "Terms 3", words = "(All this is only thought, from now on,")
    static void onlyThought() {
        Object[][] calls = {{"behind", 100, 0}, {"home"}, {"bestLaw", 60, 1}, {"turned", 40, 1}, {"cutOff", 60},
            {"wishes", 60, 1}, {"whose", 0, 60, 1}, {"whose", 1, 60, 0}};
        for (Object[] c : calls) {
            int[] a = new int[c.length - 1];
            for (int i = 0; i < a.length; i++) {
                a[i] = (Integer) c[i + 1];
            }
            still(Edges::laden, run(Edges::laden).ask((String) c[0], a), (String) c[0], a);
        }
    }

    @Sentence(of = "Terms 3", words = "z as it is,")
    static void zAsItIs() {
        int calm = Draws.forWinds(0);
        int windy = Draws.forWinds(9);
        boats(1).does("seed", calm).is(0, "behind", 1, 3).is(0, "behind", 1, 3).does("seed", windy).is(89, "behind", 1, 3);
        Run x = boats(1).does("set", 0, 3, 89).does("seed", windy).is(1, "home").is(1, "home").is(windy, "count", 10);
        x.does("seed", calm).is(89, "told", 0, 3);
        boats(1).does("seed", calm).is(0, "bestLaw", 1, 1).does("seed", windy).is(89, "bestLaw", 1, 1).is(89, "bestLaw", 1, 1);
        boats(1).does("seed", calm).is(0, "turned", 1, 1).does("seed", windy).is(89, "turned", 1, 1).is(89, "turned", 1, 1);
        boats(1).does("seed", calm).is(0, "wishes", 1, 1).does("seed", windy).is(89, "wishes", 1, 1).is(89, "wishes", 1, 1);
        Run s = boats(1).does("sheet", 0, 0, 1).does("seed", calm).is(0, "whose", 0, 1, 1).does("seed", windy);
        s.is(89, "whose", 0, 1, 1).is(89, "whose", 0, 1, 1);
        Run c = run().does("boat", 5, 1, 0).does("boat", 1, 1, 0).does("rule", 3, 0).does("seed", calm).is(0, "cutOff", 1);
        c.does("seed", windy).is(2, "cutOff", 1).is(2, "cutOff", 1);
    }

    @Sentence(of = "Terms 3", words = "without the bound of THE HOUR: nothing changes.)")
    static void withoutTheBound() {
        int windy = Draws.forWinds(9, 9);
        Run x = last().does("boat", 0, 1, 178).does("seed", windy);
        x.is(1, "behind", 1, 2).is(100, "behind", 100, 2).is(178, "behind", 2, 3).is(2, "home");
        x.is(178, "bestLaw", 2, 1).is(178, "turned", 2, 1).is(178, "wishes", 2, 1);
        x.does("sheet", 0, 0, 1).is(178, "whose", 0, 2, 1);
        x.does("turns", 0, 5).does("boat", 1, 1, 0).does("rule", 3, 0).is(2, "cutOff", 1);
        x.is(9999, "count", 1).is(windy, "count", 10);
    }

    @Sentence(of = "Terms 3", words = "BEHIND n HOURS: CATCH of all, together; which BOAT has THE SAIL; WEAR; PLACE of a BOAT.")
    static void behindAsInHours() {
        for (int n : new int[] {0, 1, 2, 99, 100}) {
            Run x = run(seven(n + 1));
            if (n > 0) {
                x.does("hours", n);
            }
            Run y = run(seven(n + 1)).is(x.ask("fleet", 0), "behind", n, 0).is(x.ask("fleet", 3), "behind", n, 1);
            y.is(x.ask("fleet", 2), "behind", n, 2);
            for (int k = 0; k < 7; k++) {
                y.is(x.ask("told", k, 2), "behind", n, 3 + k);
            }
        }
    }

    @Sentence(of = "Terms 3", words = "HOME: behind how many HOURS (0 .. 300) each PLACE is its WANT or more first.")
    static void homeFirst() {
        run().is(0, "home");
        boats(9).is(0, "home").does("set", 4, 2, 9999).is(0, "home");
        // Places are 19 more in each of three hours.
        Run x = boats(1).does("seed", Draws.forWinds(2, 2, 2));
        int[][] hours = {{0, 0}, {1, 1}, {19, 1}, {20, 2}, {38, 2}, {39, 3}};
        for (int[] h : hours) {
            x.does("set", 0, 3, h[0]).is(h[1], "home");
        }
        // Each of nine must be there.
        for (int k = 0; k < 9; k++) {
            // Storms keep the sail with boat 0.
            Run y = boats(9).does("set", 0, 1, 2).does("rule", 4, 100).does("seed", Draws.forWinds(5)).does("set", k, 3, 1);
            y.is(1, "home").does("ties", k, 0).is(k == 0 ? 1 : NONE, "home");
        }
    }

    @Sentence(of = "Terms 3", words = "BEST LAW for n: the LAW with which CATCH of all, together, and PLACES of all, together, are most "
        + "behind n HOURS;")
    static void bestLawAsInHours() {
        boolean[] seen = new boolean[3];
        for (int seed = 1; seed <= 12; seed++) {
            int[] sums = lawSums(seven(seed), 20);
            int best = sums[0] >= sums[1] && sums[0] >= sums[2] ? 0 : sums[1] >= sums[2] ? 1 : 2;
            seen[best] = true;
            run(seven(seed)).is(best, "bestLaw", 20, 0).is(sums[best], "bestLaw", 20, 1);
            run(seven(seed)).does("rule", 1, 2).is(best, "bestLaw", 20, 0).is(2, "count", 3);
        }
        due.holds("each LAW is best once", seen[0] && seen[1] && seen[2]);
    }

    private static int[] lawSums(Setup setup, int n) {
        int[] sums = new int[3];
        for (int law = 0; law < 3; law++) {
            Run x = run(setup).does("rule", 1, law).does("hours", n);
            sums[law] = x.ask("fleet", 0) + x.ask("fleet", 1);
        }
        return sums;
    }

    @Sentence(of = "Terms 3", words = "are most behind n HOURS; of several the least. TURNED")
    static void bestLawOfSeveral() {
        boats(1).does("rule", 1, 2).is(0, "bestLaw", 9, 0);
        // The sail is with a TENT: by LAWS 1 and 2 the other one has it in the second hour, by LAW 0 not yet.
        Setup tent = x -> x.does("boat", 0, 10, 9999).does("boat", 5, 10, 10).does("set", 0, 2, 100).does("set", 1, 2, 200)
            .does("hands", 1).does("seed", Draws.forWinds(1, 9));
        int[] sums = lawSums(tent, 2);
        due.holds("two are alike, the first is less", sums[1] == sums[2] && sums[0] < sums[1]);
        run(tent).is(1, "bestLaw", 2, 0).is(sums[1], "bestLaw", 2, 1);
    }

    @Sentence(of = "Terms 3", words = "TURNED for n: the TURN 1 .. 20 with which the least PLACE of all is greatest behind n HOURS")
    static void turnsTried() {
        // A TENT has the sail first: the sooner it goes on the better.
        Run first = run().does("boat", 5, 1, 0).does("boat", 0, 1, 0).does("seed", Draws.forWinds(5, 5));
        first.is(1, "turned", 2, 0).is(49, "turned", 2, 1);
        // A TENT has it second: the longer the first one has it the better, but 21 is not tried.
        Run twenty = run().does("boat", 0, 1, 0).does("boat", 5, 1, 0).does("seed", windyAt(20, 21));
        twenty.is(20, "turned", 21, 0).is(twenty.ask("behind", 0, 3) + sailed(windyAt(20, 21), 20), "turned", 21, 1);
        twenty.is(20, "turned", 20, 0).is(19, "turned", 19, 0);
        // The least place of all counts: boat 1 is cut and stays behind, whatever the others do.
        run().does("boat", 0, 1, 0).does("boat", 0, 1, 0).does("ties", 1, 0).does("set", 1, 2, 7).does("set", 0, 2, 8)
            .does("rule", 1, 2).does("seed", Draws.forWinds(0)).is(7, "turned", 1, 1);
    }

    /** A z by which a BOAT of weight 1 moves in each of the two hours, and in the one ahead of them. */
    private static int windyAt(int one, int other) {
        for (int z = 0;; z++) {
            if (sailed(z, one) > sailed(z, one - 1) && sailed(z, other) > sailed(z, other - 1)
                && sailed(z, one - 1) > sailed(z, one - 2)) {
                return z;
            }
        }
    }

    /** How far a BOAT of weight 1 comes that has the sail all the time. */
    private static int sailed(int z, int hours) {
        Draws d = new Draws(z);
        int way = 0;
        for (int h = 0; h < hours; h++) {
            int wind = d.next() % 10;
            d.next();
            way += wind == 0 ? 0 : 10 * wind - 1;
        }
        return way;
    }

    @Sentence(of = "Terms 3", words = "(by LAW 0); of several the least. CUT OFF")
    static void turnedByLaw0() {
        boats(1).is(1, "turned", 40, 0);
        Setup two = x -> x.does("boat", 0, 1, 0).does("boat", 5, 1, 9999).does("seed", Draws.forWinds(3, 3, 3));
        // By LAWS 1 and 2 the TENT would have it at once. TURNS 3 to 20 are alike.
        for (int law = 0; law < 3; law++) {
            run(two).does("rule", 1, law).does("rule", 2, 1).is(3, "turned", 3, 0).is(87, "turned", 3, 1).is(law, "count", 3)
                .is(1, "count", 4);
        }
    }

    @Sentence(of = "Terms 3", words = "CUT OFF for n: BOATS that are TIED, and each of which, if it were CUT now, would have more CATCH and "
        + "PLACE, together, behind n HOURS than as it is.")
    static void cutOffIsMore() {
        // Nobody moves by a TENT. A BOAT that is cut has all of FISH for half of it, and rows 0.
        Setup tent = x -> x.does("boat", 5, 1, 0).does("boat", 0, 1, 0).does("boat", 0, 1, 0).does("rule", 2, 99)
            .does("seed", Draws.forWinds(5, 5));
        run(tent).does("rule", 3, 0).is(0, "cutOff", 2);
        run(tent).does("rule", 3, 1).is(6, "cutOff", 2);
        run(tent).does("rule", 3, 1).does("ties", 2, 0).is(2, "cutOff", 2);
        run(tent).does("rule", 3, 1).does("ties", 1, 0).does("ties", 2, 0).is(0, "cutOff", 2);
        // CATCH of 10 for 5, and PLACE 0 for 4, 5, 6: 10 against 9, 10, 11.
        for (int pull = 4; pull <= 6; pull++) {
            Run x = boats(2).does("rule", 3, 10).does("seed", Draws.forWinds(5));
            x.text("pull " + pull);
            x.is(pull < 5 ? 2 : 0, "cutOff", 1);
        }
        // CATCH and PLACE that it has already make no difference.
        Run y = boats(2).does("rule", 3, 10).does("rule", 2, 99).does("hours", 5).does("set", 1, 2, 100).does("seed", Draws.forWinds(5));
        y.text("pull 4");
        y.is(2, "cutOff", 1);
        y.text("pull 5");
        y.is(0, "cutOff", 1);
    }

    @Sentence(of = "Terms 3", words = "if it were CUT now")
    static void cutOffEachByItself() {
        for (int seed = 1; seed <= 6; seed++) {
            run(seven(seed)).is(cutOffByHours(seven(seed), 30), "cutOff", 30);
        }
        // The one with the sail is no faster if it is cut; it would be, if the heavy one were cut as well.
        Run x = boats(2).does("set", 0, 1, 50).does("hands", 1).does("rule", 2, 99).does("rule", 3, 0).does("seed", Draws.forWinds(5));
        x.is(0, "cutOff", 1).does("ties", 0, 0).is(0, "cutOff", 1);
    }

    /** Of seven boats, each in an object of its own. */
    private static int cutOffByHours(Setup setup, int n) {
        Run as = run(setup).does("hours", n);
        int bits = 0;
        for (int k = 0; k < 7; k++) {
            Run cut = run(setup);
            boolean tied = cut.ask("ties", k, 0) == 1;
            cut.does("hours", n);
            boolean more = cut.ask("told", k, 4) + cut.ask("told", k, 2) > as.ask("told", k, 4) + as.ask("told", k, 2);
            bits |= tied && more ? 1 << k : 0;
        }
        return bits;
    }

    @Sentence(of = "Terms 3", words = "WISHES for n: the BOAT with which, if it had THE SAIL now (SINCE 0), PLACES of all behind n HOURS, "
        + "together, are most;")
    static void wishesAsInHours() {
        for (int seed = 1; seed <= 6; seed++) {
            int best = 0;
            int most = -1;
            for (int k = 0; k < 7; k++) {
                int sum = run(seven(seed)).does("hands", k).does("hours", 10).ask("fleet", 1);
                best = sum > most ? k : best;
                most = Math.max(most, sum);
            }
            run(seven(seed)).is(best, "wishes", 10, 0).is(most, "wishes", 10, 1);
        }
        // Each of the BOATS is thought of, and nobody else: if none had the sail it would be 28 here.
        Setup two = x -> x.does("seed", 1061).does("rule", 1, 1).does("boat", 0, 20, 80).does("boat", 1, 49, 163).does("ties", 1, 0);
        due.holds("by boat 0 less", run(two).does("hands", 0).does("hours", 2).ask("fleet", 1) < 24);
        run(two).does("hands", 1).does("hours", 2).is(24, "fleet", 1);
        run(two).is(1, "wishes", 2, 0).is(24, "wishes", 2, 1);
        // The one that has it begins anew: SINCE was 2 of 3, and the next one would be a TENT.
        Run x = run().does("boat", 0, 1, 0).does("boat", 5, 1, 0).does("seed", Draws.forWinds(0, 0, 5, 5, 5)).does("hours", 2);
        x.is(2, "fleet", 4).is(0, "wishes", 3, 0).is(2 * 3 * 49, "wishes", 3, 1).is(2, "fleet", 4).is(49, "behind", 3, 3);
    }

    @Sentence(of = "Terms 3", words = "are most; of several the least.")
    static void wishesOfSeveral() {
        boats(9).is(0, "wishes", 1, 0).does("hands", 5).is(0, "wishes", 1, 0);
        Run x = run().does("boat", 5, 9, 0).does("boat", 0, 9, 0).does("boat", 0, 9, 0).does("seed", Draws.forWinds(5));
        x.is(1, "wishes", 1, 0).is(3 * 37, "wishes", 1, 1);
        Run y = boats(8).does("boat", 3, 1, 0).does("seed", Draws.forWinds(5)).is(8, "wishes", 1, 0);
        y.does("seed", Draws.forWinds(0)).is(0, "wishes", 1, 0).is(0, "wishes", 1, 1);
    }

    @Sentence(of = "Terms 3", words = "WHOSE LAW by a SHEET, for n: the LAW 0 .. 2 with which PLACES of BOATS k behind n HOURS and places k "
        + "that are numbers differ least")
    static void whoseAsInHours() {
        // By LAW 0 the TENT keeps the sail, by LAW 1 boat 1 has it behind the first hour, by LAW 2 boat 2.
        Setup three = x -> x.does("boat", 5, 1, 0).does("boat", 0, 9, 0).does("boat", 3, 9, 500).does("set", 0, 2, 60)
            .does("set", 2, 2, 50).does("rule", 2, 99).does("seed", Draws.forWinds(3, 9));
        for (int law = 0; law < 3; law++) {
            Run then = run(three).does("rule", 1, law).does("hours", 2).is(law, "fleet", 3);
            for (int sort = 0; sort < 2; sort++) {
                Run x = run(three).does("sheet", 3, sort, 3).does("rule", 1, (law + 1) % 3);
                for (int k = 0; k < 3; k++) {
                    x.does("mark", 3, k, then.ask("told", k, 2));
                }
                x.is(law, "whose", 3, 2, 0).is(0, "whose", 3, 2, 1).does("mark", 3, 1, then.ask("told", 1, 2) + 3);
                x.is(law, "whose", 3, 2, 0).is(3, "whose", 3, 2, 1);
            }
        }
        // Numbers alone: without one none differ, and with no place.
        Run none = run(three).does("sheet", 0, 1, 3).does("mark", 0, 0, NONE).does("mark", 0, 1, NONE).does("mark", 0, 2, NONE);
        none.is(0, "whose", 0, 2, 0).is(0, "whose", 0, 2, 1).does("mark", 0, 2, 7).is(43, "whose", 0, 0, 1);
        none.does("sheet", 0, 0, 0).is(0, "whose", 0, 60, 0).is(0, "whose", 0, 60, 1);
        none.does("sheet", 0, 0, 1).is(60, "whose", 0, 0, 1);
    }

    @Sentence(of = "Terms 3", words = "(signs left out;")
    static void whoseSignsLeftOut() {
        Run x = boats(2).does("set", 0, 2, 10).does("set", 1, 2, 20).does("sheet", 0, 0, 2);
        x.is(30, "whose", 0, 0, 1).does("mark", 0, 0, 15).does("mark", 0, 1, 15).is(10, "whose", 0, 0, 1);
        x.does("mark", 0, 0, -32768).is(32778 + 5, "whose", 0, 0, 1).does("mark", 0, 0, 32767).is(32757 + 5, "whose", 0, 0, 1);
        x.does("sheet", 0, 1, 2).does("mark", 0, 0, -99999).does("mark", 0, 1, 99999).is(100009 + 99979, "whose", 0, 0, 1);
    }

    @Sentence(of = "Terms 3", words = "places beyond all BOATS: 0), together;")
    static void whoseBeyondAllBoats() {
        Run x = run().does("sheet", 0, 0, 24).is(0, "whose", 0, 60, 1).does("mark", 0, 0, 5).is(5, "whose", 0, 60, 1);
        x.does("mark", 0, 23, -7).is(12, "whose", 0, 60, 1).is(0, "whose", 0, 60, 0);
        x.does("deal", 9).does("mark", 0, 0, 0).is(7, "whose", 0, 0, 1).does("mark", 0, 9, 8).is(15, "whose", 0, 0, 1);
        x.does("mark", 0, 8, 100).is(115, "whose", 0, 0, 1).does("set", 8, 2, 40).is(75, "whose", 0, 0, 1);
        x.does("sheet", 1, 1, 24).does("mark", 1, 23, NONE).is(40, "whose", 1, 0, 1);
    }

    @Sentence(of = "Terms 3", words = "together; of several the least.")
    static void whoseOfSeveral() {
        Run x = run(seven(3)).does("rule", 1, 2).does("sheet", 0, 0, 7).is(0, "whose", 0, 0, 0);
        x.does("sheet", 0, 0, 0).is(0, "whose", 0, 60, 0);
        // LAWS 1 and 2 come to the same places, LAW 0 to others.
        Run y = run().does("boat", 0, 10, 9999).does("boat", 5, 10, 10).does("set", 0, 2, 100).does("set", 1, 2, 200);
        y.does("hands", 1).does("seed", Draws.forWinds(1, 9)).does("sheet", 0, 0, 2).does("mark", 0, 0, 178).does("mark", 0, 1, 278);
        y.is(1, "whose", 0, 2, 0).is(0, "whose", 0, 2, 1);
    }

    // ---- Promise 15

    @Sentence(of = "Promise 15", words = "BEHIND n (0 .. 100) HOURS:")
    static void behindHours() {
        Run x = boats(1).is(0, "behind", 0, 2).is(1, "behind", 1, 2).is(100, "behind", 100, 2);
        x.is(BAD, "behind", -1, 2).is(BAD, "behind", 101, 2);
        run().is(0, "behind", 0, 0).is(0, "behind", 100, 0).is(0, "behind", 100, 1).is(0, "behind", 100, 2);
    }

    @Sentence(of = "Promise 15", words = "what 0 CATCH, 1 who has THE SAIL, 2 WEAR; 3 and k: PLACE of BOAT k.")
    static void behindWhat() {
        Run x = boats(9).does("set", 8, 2, 888).does("set", 0, 2, 111).does("hands", 8);
        x.is(0, "behind", 0, 0).is(8, "behind", 0, 1).is(0, "behind", 0, 2).is(111, "behind", 0, 3).is(888, "behind", 0, 11);
        x.is(BAD, "behind", 0, 12).is(BAD, "behind", 0, -1);
        run().is(0, "behind", 0, 2).is(BAD, "behind", 0, 3);
        boats(1).is(0, "behind", 0, 3).is(BAD, "behind", 0, 4);
    }

    @Sentence(of = "Promise 15", words = "BAD.")
    static void behindBad() {
        int[][] bad = {{-1, 0}, {101, 0}, {MIN, 0}, {MAX, 0}, {0, -1}, {0, 9}, {0, 11}, {0, 12}, {0, MIN}, {0, MIN + 2}, {0, MAX}};
        for (int[] b : bad) {
            still(Edges::laden, BAD, "behind", b);
        }
        run(Edges::laden).is(run(Edges::laden).ask("told", 5, 2), "behind", 0, 8);
    }

    // ---- Promise 16

    @Sentence(of = "Promise 16", words = "HOME.")
    static void homeOfThreeHundred() {
        rowing(300, 0).is(300, "home");
        rowing(299, 0).is(299, "home");
        rowing(1, 0).is(1, "home");
        boats(3).is(0, "home");
    }

    @Sentence(of = "Promise 16", words = "NONE: not by then.")
    static void homeNotByThen() {
        rowing(300, 1).is(NONE, "home");
        still(x -> { laden(x); x.does("boat", 5, 1, 1).does("ties", 6, 0).does("rule", 4, 0).does("rule", 1, 0); x.text("pull 0"); },
            NONE, "home");
    }

    /** A NINTH that is cut rows 1 in every hour with wind; it wants to where it is in that hour, and so much more. */
    private static Run rowing(int hours, int more) {
        int z = 0;
        while (windOf(z, hours) == 0 || windOf(z, hours + 1) == 0) {
            z++;
        }
        int way = 0;
        for (int h = 1; h <= hours; h++) {
            way += windOf(z, h) == 0 ? 0 : 1;
        }
        Run x = run().does("boat", 5, 50, 0).does("boat", 4, 1, way + more).does("ties", 1, 0).does("rule", 4, 100);
        return x.does("seed", z);
    }

    private static int windOf(int z, int hour) {
        Draws d = new Draws(z);
        for (int i = 0; i < 2 * (hour - 1); i++) {
            d.next();
        }
        return d.next() % 10;
    }

    // ---- Promise 17

    @Sentence(of = "Promise 17", words = "BEST LAW for n (1 .. 60): what 0 the LAW, 1 that sum.")
    static void bestLawOfHours() {
        for (int n : new int[] {1, 60}) {
            int[] sums = lawSums(seven(8), n);
            int best = sums[0] >= sums[1] && sums[0] >= sums[2] ? 0 : sums[1] >= sums[2] ? 1 : 2;
            run(seven(8)).is(best, "bestLaw", n, 0).is(sums[best], "bestLaw", n, 1);
        }
        run().is(0, "bestLaw", 1, 0).is(0, "bestLaw", 60, 0).is(0, "bestLaw", 1, 1).is(0, "bestLaw", 60, 1);
    }

    @Sentence(of = "Promise 17", words = "BAD.")
    static void bestLawBad() {
        int[][] bad = {{0, 0}, {61, 0}, {-1, 0}, {MIN, 1}, {MAX, 1}, {1, -1}, {1, 2}, {60, MIN}, {60, MAX}};
        for (int[] b : bad) {
            still(Edges::laden, BAD, "bestLaw", b);
        }
        run().is(BAD, "bestLaw", 0, 0).is(BAD, "bestLaw", 61, 1).is(BAD, "bestLaw", 1, 2);
    }

    // ---- Promise 18

    @Sentence(of = "Promise 18", words = "TURNED for n (1 .. 40): what 0 the TURN, 1 the least PLACE then.")
    static void turnedOfHours() {
        for (int n : new int[] {1, 40}) {
            int best = 0;
            int most = -1;
            for (int turn = 1; turn <= 20; turn++) {
                int least = leastPlace(run(seven(5)).does("rule", 1, 0).does("rule", 2, turn).does("hours", n));
                best = least > most ? turn : best;
                most = Math.max(most, least);
            }
            run(seven(5)).is(best, "turned", n, 0).is(most, "turned", n, 1);
        }
    }

    private static int leastPlace(Run x) {
        int least = 9999;
        for (int k = 0; k < x.ask("count", 0); k++) {
            least = Math.min(least, x.ask("told", k, 2));
        }
        return least;
    }

    @Sentence(of = "Promise 18", words = "BAD; NONE: there are no BOATS.")
    static void turnedBad() {
        int[][] bad = {{0, 0}, {41, 0}, {-1, 0}, {MIN, 1}, {MAX, 1}, {1, -1}, {1, 2}, {40, MIN}, {40, MAX}};
        for (int[] b : bad) {
            still(Edges::laden, BAD, "turned", b);
            still(Edges::ladenWithoutBoats, BAD, "turned", b);
        }
    }

    @Sentence(of = "Promise 18", words = "NONE: there are no BOATS.")
    static void turnedWithoutBoats() {
        still(Edges::ladenWithoutBoats, NONE, "turned", 1, 0);
        still(Edges::ladenWithoutBoats, NONE, "turned", 40, 1);
        run().is(NONE, "turned", 1, 0).is(NONE, "turned", 40, 1);
        run().does("keep").does("deal", 1).does("back").is(NONE, "turned", 1, 1).does("deal", 1).is(1, "turned", 1, 0);
    }

    // ---- Promise 19

    @Sentence(of = "Promise 19", words = "CUT OFF for n (1 .. 60), as a set.")
    static void cutOffOfHours() {
        run().is(0, "cutOff", 1).is(0, "cutOff", 60);
        // By a TENT nobody moves, and who is cut has more of the fish: all but the one with the sail.
        Run x = run().does("boat", 5, 1, 0).does("rule", 2, 99);
        for (int k = 1; k < 9; k++) {
            x.does("boat", 0, 1, 0);
        }
        x.is(510, "cutOff", 1).is(510, "cutOff", 60).does("hands", 8).does("turns", 8, 5).is(255, "cutOff", 60);
        for (int n : new int[] {1, 59, 60}) {
            run(seven(CUT_OFF_SEED)).is(cutOffByHours(seven(CUT_OFF_SEED), n), "cutOff", n);
        }
        due.holds("in the last hour it is another set", cutOffByHours(seven(CUT_OFF_SEED), 59)
            != cutOffByHours(seven(CUT_OFF_SEED), 60));
    }

    @Sentence(of = "Promise 19", words = "BAD.")
    static void cutOffBad() {
        for (int n : new int[] {0, 61, -1, MIN, MAX}) {
            still(Edges::laden, BAD, "cutOff", n);
            still(Edges::ladenWithoutBoats, BAD, "cutOff", n);
        }
    }

    // ---- Promise 20

    @Sentence(of = "Promise 20", words = "WISHES for n (1 .. 60): what 0 the BOAT, 1 PLACES then.")
    static void wishesOfHours() {
        for (int n : new int[] {1, 60}) {
            int best = 0;
            int most = -1;
            for (int k = 0; k < 7; k++) {
                int sum = run(seven(6)).does("rule", 4, 0).does("hands", k).does("hours", n).ask("fleet", 1);
                best = sum > most ? k : best;
                most = Math.max(most, sum);
            }
            run(seven(6)).does("rule", 4, 0).is(best, "wishes", n, 0).is(most, "wishes", n, 1);
        }
    }

    @Sentence(of = "Promise 20", words = "BAD; NONE: there are no BOATS.")
    static void wishesBad() {
        int[][] bad = {{0, 0}, {61, 0}, {-1, 0}, {MIN, 1}, {MAX, 1}, {1, -1}, {1, 2}, {60, MIN}, {60, MAX}};
        for (int[] b : bad) {
            still(Edges::laden, BAD, "wishes", b);
            still(Edges::ladenWithoutBoats, BAD, "wishes", b);
        }
    }

    @Sentence(of = "Promise 20", words = "NONE: there are no BOATS.")
    static void wishesWithoutBoats() {
        still(Edges::ladenWithoutBoats, NONE, "wishes", 1, 0);
        still(Edges::ladenWithoutBoats, NONE, "wishes", 60, 1);
        run().is(NONE, "wishes", 1, 0).is(NONE, "wishes", 60, 1);
        run().does("keep").does("deal", 1).does("back").is(NONE, "wishes", 1, 1).does("deal", 1).is(0, "wishes", 1, 0);
    }

    // ---- Promise 21

    @Sentence(of = "Promise 21", words = "WHOSE LAW by a SHEET, for n (0 .. 60): what 0 the LAW, 1 the differences, together.")
    static void whoseOfHours() {
        for (int n : new int[] {0, 1, 60}) {
            int best = 0;
            int least = MAX;
            for (int law = 0; law < 3; law++) {
                Run x = run(seven(9)).does("rule", 1, law);
                if (n > 0) {
                    x.does("hours", n);
                }
                int sum = 0;
                for (int k = 0; k < 7; k++) {
                    sum += Math.abs(x.ask("told", k, 2) - 300 * k);
                }
                best = sum < least ? law : best;
                least = Math.min(least, sum);
            }
            for (int sheet = 0; sheet < 4; sheet++) {
                Run y = run(seven(9)).does("sheet", sheet, sheet % 2, 7);
                for (int k = 0; k < 7; k++) {
                    y.does("mark", sheet, k, 300 * k);
                }
                y.is(best, "whose", sheet, n, 0).is(least, "whose", sheet, n, 1);
            }
        }
    }

    @Sentence(of = "Promise 21", words = "BAD; NOTHING.")
    static void whoseBad() {
        int[][] bad = {{-1, 0, 0}, {4, 0, 0}, {MIN, 0, 0}, {MAX, 0, 0}, {0, -1, 0}, {0, 61, 0}, {0, MIN, 0}, {0, MAX, 0},
            {0, 0, -1}, {0, 0, 2}, {0, 0, MIN}, {0, 0, MAX}, {2, -1, 0}, {2, 61, 0}, {2, 0, -1}, {2, 0, 2}};
        for (int[] b : bad) {
            still(Edges::laden, BAD, "whose", b);
        }
    }

    @Sentence(of = "Promise 21", words = "NOTHING.")
    static void whoseNothing() {
        still(Edges::laden, NOTHING, "whose", 2, 0, 0);
        still(Edges::laden, NOTHING, "whose", 2, 60, 1);
        still(x -> { laden(x); x.does("sheet", 0, -1, 0); }, NOTHING, "whose", 0, 1, 0);
        for (int sheet = 0; sheet < 4; sheet++) {
            run().is(NOTHING, "whose", sheet, 0, 0);
        }
    }

    // ---- Promise 22

    @Sentence(of = "Promise 22", words = "What fee gives.")
    static void fee() {
        still(Edges::laden, run(Edges::laden).ask("fleet", 2) * 7, "fee");
        still(x -> { }, 0, "fee");
        Run x = run();
        x.text("fee 8192*8192*32");
        x.is(MIN, "fee");
        x.text("fee 0-9999");
        x.is(-9999, "fee");
    }

    // ---- Promise 23

    @Sentence(of = "Promise 23", words = "What fine gives for a BOAT.")
    static void fine() {
        Run l = run(Edges::laden);
        for (int k = 0; k < 6; k++) {
            still(Edges::laden, l.ask("told", k, 4) + l.ask("told", k, 6), "fine", k);
        }
        Run x = boats(9);
        x.text("fine 0-9999");
        x.is(-9999, "fine", 0).is(-9999, "fine", 8);
        x.text("fine 8192*8192*32-1");
        x.is(MAX, "fine", 8);
    }

    @Sentence(of = "Promise 23", words = "BAD.")
    static void fineBad() {
        for (int boat : new int[] {-1, 6, 9, MIN, MAX}) {
            still(Edges::laden, BAD, "fine", boat);
        }
        run().is(BAD, "fine", 0);
        Run x = run();
        x.text("fine 5");
        x.is(BAD, "fine", 0).does("boat", 0, 1, 0).is(5, "fine", 0).is(BAD, "fine", 1);
    }
}
