/** The boundary cases of What it is, of Terms and Terms 1, and of promises 1 to 12, sentence by sentence. */
public final class EdgesBoatsTest extends Edges {
    public static void main(String[] args) {
        testAll(EdgesBoatsTest.class);
    }

    /** Six boats, one of each kind. */
    private static Run kinds(int weight, int wind) {
        Run x = run().does("rule", 0, wind);
        for (int kind = 0; kind < 6; kind++) {
            x.does("boat", kind, weight, 0);
        }
        return x;
    }

    private static Run one(int kind, int weight, int wind) {
        return run().does("rule", 0, wind).does("boat", kind, weight, 0);
    }

    // ---- What it is

    @Sentence(of = "What it is", words = "An object is used for at most 512 calls after it has been made;")
    static void calls() {
        Run x = run();
        for (int i = 1; i <= 512; i++) {
            x.is(i, "seed", i + 1);
        }
        Run y = boats(2);
        for (int i = 3; i <= 511; i++) {
            y.does("hours", 1);
        }
        y.is(509, "fleet", 2);
    }

    // ---- Terms

    @Sentence(of = "Terms", words = "All numbers are whole; / cuts towards 0.")
    static void cutsTowards0() {
        Run x = run();
        x.text("fee (0-7)/2");
        x.is(-3, "fee");
        x.text("fee 7/(0-2)");
        x.is(-3, "fee");
        x.text("fee (0-1)/2");
        x.is(0, "fee");
        x.text("fee 7/2");
        x.is(3, "fee");
        x.does("lay", 0, 3, -7).is(-1, "rest", 0, 2).is(-1, "rest", 0, -2);
    }

    @Sentence(of = "Terms", words = "A call that is refused answers one of BAD, NO, FULL, or a FINDING")
    static void answersOfRefusedCalls() {
        Run x = run();
        x.is(-1000000001, "boat", 6, 1, 0).is(-1000000002, "back").is(-1000000011, "reads", 0);
        x.does("sheet", 0, 0, 1).does("lay", 0, 3, 1);
        x.is(-1000000012, "item", 0, 0).is(-1000000013, "mark", 0, 1, 0).is(-1000000014, "sheet", 0, 0, -1);
        boats(9).is(-1000000003, "boat", 0, 1, 0);
    }

    @Sentence(of = "Terms", words = "of several the one that stands first with it")
    static void ofSeveralTheFirst() {
        boats(9).is(BAD, "boat", 6, 1, 0);
        run().is(BAD, "turned", 0, 0).is(BAD, "wishes", 0, 0).is(BAD, "whose", 0, 61, 0).is(BAD, "check", 0);
        Run x = run().is(BAD, "sheet", 4, 0, -1).is(BAD, "rest", 5, 0).is(NOTHING, "rest", 4, 0);
        x.is(NOTHING, "mark", 0, -1, NONE).does("sheet", 0, 0, 1).is(INDEX, "mark", 0, 1, NONE);
        x.does("sheet", 1, 1, 1).is(KIND, "copy", 0, 9, 1, 9, 9);
    }

    @Sentence(of = "Terms", words = "and changes nothing (but the tape and the numbers that wait, where told).")
    static void refusedCallsChangeNothing() {
        // Not much could be seen to change if all were 0.
        Run l = run(Edges::laden).is(6, "count", 0).is(12, "count", 1).is(4, "count", 7).is(6, "count", 8).is(11, "count", 9);
        l.is(3, "fleet", 3).is(2, "fleet", 4);
        for (int what : new int[] {0, 1, 2, 5}) {
            due.holds("fleet(" + what + ") is above 0", l.ask("fleet", what) > 0);
        }
        still(Edges::laden, BAD, "boat", 0, 51, 0);
        still(Edges::laden, NOTHING, "pour", 2);
        still(Edges::laden, INDEX, "copy", 0, 0, 0, 1, 5);
        leaves(Edges::laden, Edges::ladenButWaiting, BAD, "check", 31);
        leaves(x -> { laden(x); x.does("trim", 6); }, Edges::ladenButTape, -106, "text");
    }

    @Sentence(of = "Terms", words = "NONE: there is none.")
    static void none() {
        Run x = run().is(-1000000005, "turned", 1, 0).is(-1000000005, "why", 0);
        x.does("sheet", 0, 0, 0).is(-1000000005, "reads", 0);
    }

    @Sentence(of = "Terms", words = "Sets of BOATS are told as bits (bit k for number k).")
    static void setsAreBits() {
        run().is(0, "fleet", 5).is(0, "fleet", 6);
        boats(9).is(511, "fleet", 5).is(511, "fleet", 6);
        for (int k = 0; k < 9; k++) {
            boats(9).does("ties", k, 0).is(511 - (1 << k), "fleet", 5);
            boats(9).does("set", k, 3, 1).is(511 - (1 << k), "fleet", 6);
        }
    }

    // ---- Terms 1

    @Sentence(of = "Terms 1", words = "BOATS, 9 at most, numbered from 0")
    static void nineBoats() {
        Run x = run();
        for (int k = 0; k < 9; k++) {
            x.is(k, "boat", 0, 1, 0).is(k + 1, "count", 0);
        }
        x.is(FULL, "boat", 0, 1, 0).is(9, "count", 0).is(0, "told", 0, 2).is(0, "told", 8, 2).is(BAD, "told", 9, 2);
    }

    @Sentence(of = "Terms 1", words = "WEIGHT 1 .. 50")
    static void weight() {
        Run x = run().is(BAD, "boat", 0, 0, 0).is(0, "boat", 0, 1, 0).is(1, "boat", 0, 50, 0).is(BAD, "boat", 0, 51, 0);
        x.is(1, "told", 0, 1).is(50, "told", 1, 1);
        x.is(BAD, "set", 0, 1, 0).is(1, "set", 0, 1, 50).is(BAD, "set", 0, 1, 51).is(50, "set", 0, 1, 1).is(1, "told", 0, 1);
    }

    @Sentence(of = "Terms 1", words = "PLACE 0 .. 9999 (0 at first)")
    static void place() {
        Run x = run().does("boat", 3, 50, 9999).is(0, "told", 0, 2);
        x.is(BAD, "set", 0, 2, -1).is(0, "set", 0, 2, 9999).is(BAD, "set", 0, 2, 10000).is(9999, "told", 0, 2);
        x.is(9999, "set", 0, 2, 0).is(0, "told", 0, 2);
    }

    @Sentence(of = "Terms 1", words = "WANT 0 .. 9999 (the place it wants to be at)")
    static void want() {
        Run x = run().is(BAD, "boat", 0, 1, -1).is(0, "boat", 0, 1, 0).is(1, "boat", 0, 1, 9999);
        x.is(BAD, "boat", 0, 1, 10000).is(0, "told", 0, 3).is(9999, "told", 1, 3);
        x.is(BAD, "set", 0, 3, -1).is(0, "set", 0, 3, 9999).is(BAD, "set", 0, 3, 10000).is(9999, "set", 0, 3, 0);
        x.is(0, "told", 0, 3);
    }

    @Sentence(of = "Terms 1", words = "CATCH (0 at first)")
    static void catchAtFirst() {
        Run x = boats(2).does("hours", 1).is(2, "told", 1, 4);
        x.does("boat", 0, 1, 0).is(0, "told", 2, 4);
        x.does("deal", 1).is(0, "told", 3, 4);
        x.is(2, "fleet", 0);
    }

    @Sentence(of = "Terms 1", words = "it is TIED (to the rope; at first) or CUT")
    static void tiedAtFirst() {
        Run x = boats(1).does("ties", 0, 0);
        x.does("boat", 1, 1, 0).is(1, "told", 1, 5).does("deal", 1).is(1, "told", 2, 5).is(6, "fleet", 5);
        x.is(0, "told", 0, 5);
    }

    @Sentence(of = "Terms 1", words = "and of KINDS: 0 BOAT; 1 PROUD, 2 SLOW, 5 TENT, under BOAT; 3 LEADER, under PROUD; 4 NINTH, "
        + "under SLOW (all are BOATS).")
    static void kindsUnderOneAnother() {
        run().is(BAD, "boat", -1, 1, 0).is(0, "boat", 0, 1, 0).is(1, "boat", 5, 1, 0).is(BAD, "boat", 6, 1, 0);
        String[] above = {"0", "01", "02", "013", "024", "05"};
        for (int kind = 0; kind < 6; kind++) {
            for (int as = 0; as < 6; as++) {
                boolean is = above[kind].indexOf('0' + as) >= 0;
                one(kind, 7, 5).is(is ? 7 : KIND, "as", 0, as);
            }
        }
    }

    @Sentence(of = "Terms 1", words = "THE SAIL is with a BOAT (0 at first; also while there is none).")
    static void sailAtFirst() {
        Run x = run().is(0, "fleet", 3).is(0, "behind", 100, 1).does("hours", 100).is(0, "fleet", 3);
        x.does("deal", 9).is(0, "fleet", 3).is(0, "hands", 8);
    }

    @Sentence(of = "Terms 1", words = "WIND 0 .. 9 (5 at first)")
    static void wind() {
        run().is(5, "count", 2).is(BAD, "rule", 0, -1).is(5, "rule", 0, 0).is(0, "rule", 0, 9).is(BAD, "rule", 0, 10)
            .is(9, "count", 2);
    }

    @Sentence(of = "Terms 1", words = "LAW 0 .. 2 (0 at first)")
    static void law() {
        run().is(0, "count", 3).is(BAD, "rule", 1, -1).is(0, "rule", 1, 2).is(BAD, "rule", 1, 3).is(2, "rule", 1, 0)
            .is(0, "count", 3);
    }

    @Sentence(of = "Terms 1", words = "TURN 1 .. 99 (3)")
    static void turn() {
        run().is(3, "count", 4).is(BAD, "rule", 2, 0).is(3, "rule", 2, 1).is(1, "rule", 2, 99).is(BAD, "rule", 2, 100)
            .is(99, "count", 4);
    }

    @Sentence(of = "Terms 1", words = "FISH 0 .. 99 (4)")
    static void fish() {
        run().is(4, "count", 5).is(BAD, "rule", 3, -1).is(4, "rule", 3, 0).is(0, "rule", 3, 99).is(BAD, "rule", 3, 100)
            .is(99, "count", 5);
    }

    @Sentence(of = "Terms 1", words = "STORM 0 .. 100 (0).")
    static void storm() {
        run().is(0, "count", 6).is(BAD, "rule", 4, -1).is(0, "rule", 4, 0).is(0, "rule", 4, 100).is(BAD, "rule", 4, 101)
            .is(100, "count", 6);
    }

    @Sentence(of = "Terms 1", words = "WEAR 0, SINCE 0 (how many hours the BOAT that has it has had THE SAIL), PATCHES of each "
        + "BOAT 0.")
    static void wearSincePatches() {
        run().is(0, "fleet", 2).is(0, "fleet", 4);
        Run x = boats(9).is(0, "fleet", 2).is(0, "fleet", 4);
        for (int k = 0; k < 9; k++) {
            x.is(0, "told", k, 6);
        }
        boats(1).does("rule", 4, 100).does("hours", 2).is(2, "told", 0, 6).does("boat", 0, 1, 0).is(0, "told", 1, 6);
    }

    @Sentence(of = "Terms 1", words = "THE HOUR is 0 at first, 9999 at most.")
    static void theHour() {
        run().is(0, "count", 1);
        Run x = run(y -> late(y, 98)).is(9998, "count", 1);
        x.does("hours", 1).is(9999, "count", 1).does("hours", 1).is(9999, "count", 1);
        run(y -> late(y, 0)).is(9900, "count", 1).does("hours", 100).is(9999, "count", 1);
    }

    @Sentence(of = "Terms 1", words = "PULLS (when it has THE SAIL): BOAT: what pull gives, held within 0 .. 999")
    static void pullIsHeld() {
        int[][] given = {{-1, 0}, {0, 0}, {1, 1}, {998, 998}, {999, 999}, {1000, 999}, {9999, 999}, {-9999, 0}};
        for (int[] g : given) {
            Run x = one(0, 1, 5);
            x.text(g[0] < 0 ? "pull 0-" + -g[0] : "pull " + g[0]);
            x.is(g[1], "told", 0, 7).is(g[1], "speed");
        }
        Run x = one(0, 1, 5);
        x.text("pull 8192*8192*32");
        x.is(0, "told", 0, 7);
        x.text("pull 8192*8192*32-1");
        x.is(999, "told", 0, 7);
    }

    @Sentence(of = "Terms 1", words = "(without a TEXT: 10 times WIND, less WEIGHT, 0 at least)")
    static void pullWithoutText() {
        one(0, 39, 4).is(1, "told", 0, 7);
        one(0, 40, 4).is(0, "told", 0, 7);
        one(0, 41, 4).is(0, "told", 0, 7);
        one(0, 50, 0).is(0, "told", 0, 7);
        one(0, 1, 0).is(0, "told", 0, 7);
        one(0, 1, 9).is(89, "told", 0, 7);
    }

    @Sentence(of = "Terms 1", words = "PROUD: as BOAT, and 5.")
    static void pullOfProud() {
        one(1, 1, 9).is(94, "told", 0, 7);
        one(1, 50, 0).is(5, "told", 0, 7);
        Run x = one(1, 1, 5);
        x.text("pull 1000");
        x.is(1004, "told", 0, 7);
        x.text("pull 0-5");
        x.is(5, "told", 0, 7);
    }

    @Sentence(of = "Terms 1", words = "LEADER: twice as PROUD.")
    static void pullOfLeader() {
        one(3, 1, 9).is(188, "told", 0, 7);
        one(3, 50, 0).is(10, "told", 0, 7);
        Run x = one(3, 1, 5);
        x.text("pull 1000");
        x.is(2008, "told", 0, 7);
    }

    @Sentence(of = "Terms 1", words = "SLOW: half (cut) of as BOAT.")
    static void pullOfSlow() {
        one(2, 39, 4).is(0, "told", 0, 7);
        one(2, 38, 4).is(1, "told", 0, 7);
        one(2, 37, 4).is(1, "told", 0, 7);
        one(2, 50, 4).is(0, "told", 0, 7);
        Run x = one(2, 1, 5);
        x.text("pull 1000");
        x.is(499, "told", 0, 7);
    }

    @Sentence(of = "Terms 1", words = "NINTH: as SLOW, and 9.")
    static void pullOfNinth() {
        one(4, 39, 4).is(9, "told", 0, 7);
        one(4, 38, 4).is(10, "told", 0, 7);
        Run x = one(4, 1, 5);
        x.text("pull 1000");
        x.is(508, "told", 0, 7);
    }

    @Sentence(of = "Terms 1", words = "TENT: 0.")
    static void pullOfTent() {
        Run x = one(5, 1, 9).is(0, "told", 0, 7);
        x.text("pull 999");
        x.is(0, "told", 0, 7);
    }

    @Sentence(of = "Terms 1", words = "DRAGS: BOAT: WEIGHT.")
    static void dragOfBoat() {
        one(0, 1, 5).is(1, "told", 0, 8);
        one(0, 50, 5).is(50, "told", 0, 8);
    }

    @Sentence(of = "Terms 1", words = "PROUD: as BOAT, less 3 (0 at least).")
    static void dragOfProud() {
        int[][] drags = {{1, 0}, {2, 0}, {3, 0}, {4, 1}, {5, 2}, {50, 47}};
        for (int[] d : drags) {
            one(1, d[0], 5).is(d[1], "told", 0, 8);
        }
    }

    @Sentence(of = "Terms 1", words = "LEADER: as PROUD.")
    static void dragOfLeader() {
        int[][] drags = {{1, 0}, {3, 0}, {4, 1}, {50, 47}};
        for (int[] d : drags) {
            one(3, d[0], 5).is(d[1], "told", 0, 8);
        }
    }

    @Sentence(of = "Terms 1", words = "SLOW: twice as BOAT.")
    static void dragOfSlow() {
        one(2, 1, 5).is(2, "told", 0, 8);
        one(2, 50, 5).is(100, "told", 0, 8);
    }

    @Sentence(of = "Terms 1", words = "NINTH: as SLOW, less 1.")
    static void dragOfNinth() {
        one(4, 1, 5).is(1, "told", 0, 8);
        one(4, 50, 5).is(99, "told", 0, 8);
    }

    @Sentence(of = "Terms 1", words = "TENT: as BOAT.")
    static void dragOfTent() {
        one(5, 1, 5).is(1, "told", 0, 8);
        one(5, 50, 5).is(50, "told", 0, 8);
    }

    @Sentence(of = "Terms 1", words = "ROWS (when it is CUT, and has not THE SAIL): BOAT: 0. PROUD: 4. LEADER: as PROUD, and 2. "
        + "NINTH: 1.")
    static void rows() {
        int[] rows = {0, 4, 0, 6, 1, 0};
        Run x = kinds(50, 5);
        for (int k = 0; k < 6; k++) {
            x.is(rows[k], "told", k, 9);
        }
        Run y = kinds(50, 5).does("boat", 5, 50, 0).does("hands", 6).does("seed", Draws.forWinds(9));
        for (int k = 0; k < 6; k++) {
            y.does("ties", k, 0);
        }
        y.does("hours", 1);
        for (int k = 0; k < 6; k++) {
            y.is(rows[k], "told", k, 2);
        }
    }

    @Sentence(of = "Terms 1", words = "WORTH: BOAT: WEIGHT. PROUD: as BOAT, and 8. LEADER: twice as PROUD. SLOW: 99 less WEIGHT. "
        + "NINTH: as SLOW, less 7. TENT: 4.")
    static void worth() {
        int[] least = {1, 9, 98, 18, 91, 4};
        int[] most = {50, 58, 49, 116, 42, 4};
        for (int k = 0; k < 6; k++) {
            kinds(1, 5).is(least[k], "told", k, 10);
            kinds(50, 5).is(most[k], "told", k, 10);
        }
    }

    @Sentence(of = "Terms 1", words = "(A KIND that is not named does as the one above it.)")
    static void notNamed() {
        one(2, 9, 5).is(0, "told", 0, 9);
        one(5, 9, 5).is(0, "told", 0, 9);
        one(5, 9, 5).is(9, "told", 0, 8);
    }

    @Sentence(of = "Terms 1", words = "SPEED: of the BOAT that has THE SAIL what it PULLS, less a quarter (cut) of what all others "
        + "that are TIED DRAG, together")
    static void quarterOfDrags() {
        int[][] speeds = {{1, 49}, {3, 49}, {4, 48}, {7, 48}, {8, 47}};
        for (int[] s : speeds) {
            one(0, 1, 5).does("boat", 0, s[0], 0).is(s[1], "speed");
        }
        Run x = one(0, 1, 5).does("boat", 0, 2, 0).is(49, "speed").does("boat", 0, 2, 0).is(48, "speed");
        x.does("ties", 2, 0).is(49, "speed").does("ties", 0, 0).is(49, "speed");
        x.does("hands", 2).is(48, "speed").does("ties", 0, 1).is(48, "speed").does("set", 0, 1, 2).is(47, "speed");
    }

    @Sentence(of = "Terms 1", words = "together; 0 at least. (Without BOATS: 0.)")
    static void speedAtLeast0() {
        one(0, 46, 5).does("boat", 0, 15, 0).is(1, "speed");
        one(0, 46, 5).does("boat", 0, 16, 0).is(0, "speed");
        one(0, 46, 5).does("boat", 0, 20, 0).is(0, "speed");
        Run x = one(5, 1, 5).is(0, "speed");
        for (int k = 1; k < 9; k++) {
            x.does("boat", 2, 50, 0).is(0, "speed");
        }
    }

    @Sentence(of = "Terms 1", words = "(Without BOATS: 0.)")
    static void speedWithoutBoats() {
        Run x = run().is(0, "speed").does("rule", 0, 9).is(0, "speed");
        x.text("pull 9");
        x.is(0, "speed").does("keep").does("boat", 0, 1, 0).is(9, "speed").does("back").is(0, "speed");
    }

    // ---- Promise 1

    @Sentence(of = "Promise 1", words = "As told; no BOATS.")
    static void newObject() {
        int[] counts = {0, 0, 5, 0, 3, 4, 0, 0, 0, 0, 1};
        for (int what = 0; what <= 10; what++) {
            run().is(counts[what], "count", what);
        }
        for (int what = 0; what <= 6; what++) {
            run().is(0, "fleet", what);
        }
        run().is(BAD, "told", 0, 0).is(BAD, "hands", 0).is(BAD, "fine", 0).is(0, "fee").is(0, "home");
        run().is(BAD, "textTold", 0, 0).is(NONE, "why", 0).is(NONE, "why", 1).is(NONE, "why", 2);
        for (int sheet = 0; sheet < 4; sheet++) {
            run().is(NOTHING, "reads", sheet).is(NOTHING, "lay", 0, 2, sheet);
        }
        for (int slot = 0; slot < 5; slot++) {
            run().is(NOTHING, "ask", slot, 0).is(NOTHING, "item", slot, 0).is(NOTHING, "rest", slot, 1).is(0, "lay", slot, 0, 0);
        }
        run().is(NO, "back").is(NO, "check", 1).is(1, "seed", 0);
    }

    // ---- Promise 2

    @Sentence(of = "Promise 2", words = "One more BOAT: its number.")
    static void oneMoreBoat() {
        Run x = run();
        for (int k = 0; k < 9; k++) {
            x.is(k, "boat", k % 6, 50 - k, 9999 - k);
        }
        for (int k = 0; k < 9; k++) {
            x.is(k % 6, "told", k, 0).is(50 - k, "told", k, 1).is(0, "told", k, 2).is(9999 - k, "told", k, 3);
            x.is(0, "told", k, 4).is(1, "told", k, 5).is(0, "told", k, 6);
        }
        x.is(0, "fleet", 3).is(1, "count", 10);
    }

    @Sentence(of = "Promise 2", words = "BAD; FULL.")
    static void badBoats() {
        int[][] bad = {{-1, 1, 0}, {6, 1, 0}, {MIN, 1, 0}, {MAX, 1, 0}, {0, 0, 0}, {0, 51, 0}, {0, MIN, 0}, {0, MAX, 0},
            {0, 1, -1}, {0, 1, 10000}, {0, 1, MIN}, {0, 1, MAX}};
        for (int[] b : bad) {
            still(Edges::laden, BAD, "boat", b);
        }
    }

    @Sentence(of = "Promise 2", words = "FULL.")
    static void fullOfBoats() {
        still(x -> { laden(x); x.does("deal", 9); }, FULL, "boat", 0, 1, 0);
        still(x -> { laden(x); x.does("deal", 9); }, BAD, "boat", 6, 1, 0);
        boats(8).is(8, "boat", 0, 1, 0).is(FULL, "boat", 0, 1, 0).is(BAD, "boat", 0, 0, 0).is(BAD, "boat", 0, 1, -1);
    }

    // ---- Promise 3

    @Sentence(of = "Promise 3", words = "Of a BOAT: what 0 KIND, 1 WEIGHT, 2 PLACE, 3 WANT, 4 CATCH, 5 whether it is TIED (1, 0), "
        + "6 PATCHES, 7 PULLS, 8 DRAGS, 9 ROWS, 10 WORTH.")
    static void toldOfEach() {
        // In a calm, with a storm: boat 1, the heaviest, has the sail, boat 0 is cut and has the whole of the fish.
        Run x = run().does("boat", 3, 20, 77).does("boat", 1, 30, 88).does("set", 0, 2, 66).does("ties", 0, 0);
        x.does("rule", 4, 100).does("seed", Draws.forWinds(0)).does("hours", 1).does("rule", 0, 4);
        int[] first = {3, 20, 66, 77, 4, 0, 0, 50, 17, 6, 56};
        int[] second = {1, 30, 0, 88, 0, 1, 1, 15, 27, 4, 38};
        for (int what = 0; what <= 10; what++) {
            x.is(first[what], "told", 0, what).is(second[what], "told", 1, what);
        }
        still(Edges::laden, 1, "told", 0, 5);
        still(Edges::laden, 0, "told", 2, 5);
    }

    @Sentence(of = "Promise 3", words = "BAD.")
    static void toldBad() {
        int[][] bad = {{-1, 0}, {6, 0}, {9, 0}, {MIN, 0}, {MAX, 0}, {0, -1}, {0, 11}, {5, 11}, {0, MIN}, {0, MAX}};
        for (int[] b : bad) {
            still(Edges::laden, BAD, "told", b);
        }
        run().is(BAD, "told", 0, 0);
        boats(1).is(0, "told", 0, 0).is(BAD, "told", 1, 0);
        boats(9).is(0, "told", 8, 0).is(BAD, "told", 9, 0);
    }

    // ---- Promise 4

    @Sentence(of = "Promise 4", words = "A BOAT as one of a KIND: WEIGHT.")
    static void asWeight() {
        one(4, 50, 5).is(50, "as", 0, 4).is(50, "as", 0, 2).is(50, "as", 0, 0);
        one(3, 1, 5).is(1, "as", 0, 3).is(1, "as", 0, 1).is(1, "as", 0, 0);
        one(0, 1, 5).does("turns", 0, 5).is(1, "as", 0, 5).is(1, "as", 0, 0);
    }

    @Sentence(of = "Promise 4", words = "BAD: boat, kind;")
    static void asBad() {
        int[][] bad = {{-1, 0}, {6, 0}, {MIN, 0}, {MAX, 0}, {0, -1}, {0, 6}, {0, MIN}, {0, MAX}, {6, 6}};
        for (int[] b : bad) {
            still(Edges::laden, BAD, "as", b);
        }
        run().is(BAD, "as", 0, 0);
    }

    @Sentence(of = "Promise 4", words = "KIND: it is not of that KIND, nor of one under it.")
    static void asKind() {
        for (int kind = 0; kind < 6; kind++) {
            int other = kind == 5 ? 1 : 5;
            int made = kind;
            still(x -> { laden(x); x.does("boat", made, 9, 9); }, KIND, "as", 6, other);
        }
        // One that is above another is not of that one's kind.
        one(0, 9, 5).is(KIND, "as", 0, 1).is(KIND, "as", 0, 2).is(KIND, "as", 0, 3).is(KIND, "as", 0, 4).is(KIND, "as", 0, 5);
        one(1, 9, 5).is(KIND, "as", 0, 3);
        one(2, 9, 5).is(KIND, "as", 0, 4);
    }

    // ---- Promise 5

    @Sentence(of = "Promise 5", words = "A BOAT is of another KIND from now on: what it was.")
    static void turnsTo() {
        Run x = one(0, 9, 5).is(0, "turns", 0, 5).is(5, "told", 0, 0).is(5, "turns", 0, 0).is(0, "told", 0, 0);
        x.is(0, "turns", 0, 0).is(0, "told", 0, 0);
        Run y = boats(9).is(0, "turns", 8, 4).is(4, "told", 8, 0).is(0, "told", 7, 0);
        y.is(9, "count", 0);
        for (int boat = 0; boat < 6; boat++) {
            int k = boat;
            int was = run(Edges::laden).ask("told", boat, 0);
            leaves(z -> { laden(z); z.does("turns", k, 3); }, Edges::laden, 3, "turns", boat, was);
        }
    }

    @Sentence(of = "Promise 5", words = "BAD.")
    static void turnsBad() {
        int[][] bad = {{-1, 0}, {6, 0}, {MIN, 0}, {MAX, 0}, {0, -1}, {0, 6}, {0, MIN}, {0, MAX}};
        for (int[] b : bad) {
            still(Edges::laden, BAD, "turns", b);
        }
        run().is(BAD, "turns", 0, 0);
    }

    // ---- Promise 6

    @Sentence(of = "Promise 6", words = "WEIGHT, PLACE, WANT (what 1 .. 3) of a BOAT becomes v: what it was.")
    static void setTo() {
        Run x = boats(9).is(1, "set", 8, 1, 50).is(50, "told", 8, 1).is(1, "told", 7, 1);
        x.is(0, "set", 8, 2, 9999).is(9999, "told", 8, 2).is(0, "told", 8, 3);
        x.is(0, "set", 8, 3, 9998).is(9998, "told", 8, 3).is(9999, "told", 8, 2);
        for (int boat = 0; boat < 6; boat++) {
            for (int what = 1; what <= 3; what++) {
                int k = boat;
                int w = what;
                int was = run(Edges::laden).ask("told", boat, what);
                leaves(y -> { laden(y); y.does("set", k, w, 50); }, Edges::laden, 50, "set", boat, what, was);
            }
        }
    }

    @Sentence(of = "Promise 6", words = "BAD.")
    static void setBad() {
        int[][] bad = {{-1, 1, 1}, {6, 1, 1}, {MAX, 1, 1}, {MIN, 1, 1}, {0, 0, 1}, {0, 4, 1}, {0, MIN, 1}, {0, MAX, 1},
            {0, 1, 0}, {0, 1, 51}, {0, 1, MIN}, {0, 1, MAX}, {0, 2, -1}, {0, 2, 10000}, {0, 2, MIN}, {0, 2, MAX},
            {0, 3, -1}, {0, 3, 10000}, {0, 3, MIN}, {0, 3, MAX}};
        for (int[] b : bad) {
            still(Edges::laden, BAD, "set", b);
        }
        run().is(BAD, "set", 0, 1, 1);
    }

    // ---- Promise 7

    @Sentence(of = "Promise 7", words = "A BOAT is TIED (on 1), CUT (on 0): whether it was TIED (1, 0).")
    static void tiesAndCuts() {
        Run x = boats(9).is(1, "ties", 8, 1).is(1, "ties", 8, 0).is(0, "ties", 8, 0).is(0, "told", 8, 5);
        x.is(0, "ties", 8, 1).is(1, "told", 8, 5);
        leaves(y -> { laden(y); y.does("ties", 1, 0); }, Edges::laden, 0, "ties", 1, 1);
        leaves(y -> { laden(y); y.does("ties", 3, 0); }, Edges::laden, 0, "ties", 3, 1);
        leaves(y -> { laden(y); y.does("ties", 4, 1); }, Edges::laden, 1, "ties", 4, 0);
    }

    @Sentence(of = "Promise 7", words = "BAD.")
    static void tiesBad() {
        int[][] bad = {{-1, 0}, {6, 0}, {MIN, 1}, {MAX, 1}, {0, -1}, {0, 2}, {2, 2}, {0, MIN}, {0, MAX}};
        for (int[] b : bad) {
            still(Edges::laden, BAD, "ties", b);
        }
        run().is(BAD, "ties", 0, 1);
    }

    // ---- Promise 8

    @Sentence(of = "Promise 8", words = "THE SAIL goes to a BOAT (SINCE is 0 then): who had it.")
    static void handsOver() {
        Run x = boats(9).does("rule", 2, 99).does("hours", 2).is(2, "fleet", 4);
        x.is(0, "hands", 8).is(0, "fleet", 4).is(8, "fleet", 3);
        x.does("hours", 3).is(3, "fleet", 4).is(8, "hands", 8).is(0, "fleet", 4).is(8, "fleet", 3).is(8, "hands", 0);
        x.is(0, "fleet", 3);
    }

    @Sentence(of = "Promise 8", words = "BAD.")
    static void handsBad() {
        for (int boat : new int[] {-1, 6, 9, MIN, MAX}) {
            still(Edges::laden, BAD, "hands", boat);
        }
        run().is(BAD, "hands", 0);
    }

    // ---- Promise 9

    @Sentence(of = "Promise 9", words = "WIND, LAW, TURN, FISH, STORM (what 0 .. 4) becomes v: what it was.")
    static void ruleTo() {
        int[] least = {0, 0, 1, 0, 0};
        int[] most = {9, 2, 99, 99, 100};
        int[] first = {5, 0, 3, 4, 0};
        for (int what = 0; what <= 4; what++) {
            Run x = run().is(first[what], "rule", what, most[what]).is(most[what], "rule", what, least[what]);
            x.is(least[what], "count", 2 + what);
            for (int other = 0; other <= 4; other++) {
                if (other != what) {
                    x.is(first[other], "count", 2 + other);
                }
            }
            int w = what;
            int was = run(Edges::laden).ask("count", 2 + what);
            leaves(y -> { laden(y); y.does("rule", w, 2); }, Edges::laden, 2, "rule", what, was);
        }
    }

    @Sentence(of = "Promise 9", words = "BAD.")
    static void ruleBad() {
        int[][] bad = {{-1, 1}, {5, 1}, {MIN, 1}, {MAX, 1}, {0, -1}, {0, 10}, {1, -1}, {1, 3}, {2, 0}, {2, 100}, {3, -1},
            {3, 100}, {4, -1}, {4, 101}, {0, MIN}, {1, MAX}, {2, MIN}, {3, MAX}, {4, MIN}};
        for (int[] b : bad) {
            still(Edges::laden, BAD, "rule", b);
        }
    }

    // ---- Promise 10

    @Sentence(of = "Promise 10", words = "BOATS are drawn, n (1 .. 9) of them")
    static void dealsOneToNine() {
        for (int n = 1; n <= 9; n++) {
            Draws d = new Draws(1);
            for (int i = 0; i < 3 * n; i++) {
                d.next();
            }
            run().is(n, "deal", n).is(n, "count", 0).is(d.z(), "count", 10);
        }
        run().is(BAD, "deal", 0).is(BAD, "deal", 10).is(0, "count", 0);
    }

    @Sentence(of = "Promise 10", words = "as many as there is room for (no draws for others): how many came.")
    static void dealsAsManyAsThereIsRoom() {
        for (int had = 0; had <= 9; had++) {
            Draws d = new Draws(1);
            for (int i = 0; i < 3 * (9 - had); i++) {
                d.next();
            }
            boats(had).is(9 - had, "deal", 9).is(9, "count", 0).is(d.z(), "count", 10).is(0, "deal", 1).is(d.z(), "count", 10);
        }
        still(x -> { laden(x); x.does("deal", 3); }, 0, "deal", 9);
    }

    @Sentence(of = "Promise 10", words = "BAD.")
    static void dealBad() {
        for (int n : new int[] {0, 10, -1, MIN, MAX}) {
            still(Edges::laden, BAD, "deal", n);
        }
        boats(9).is(BAD, "deal", 0).is(BAD, "deal", 10);
    }

    // ---- Promise 11

    @Sentence(of = "Promise 11", words = "z becomes v: what it was.")
    static void anySeed() {
        Run x = run().is(1, "seed", MIN).is(MIN, "seed", MAX).is(MAX, "seed", 0).is(0, "seed", BAD).is(BAD, "seed", -1);
        x.is(-1, "count", 10);
        int was = run(Edges::laden).ask("count", 10);
        leaves(y -> { laden(y); y.does("seed", 5); }, Edges::laden, 5, "seed", was);
    }

    // ---- Promise 12

    @Sentence(of = "Promise 12", words = "SPEED.")
    static void speed() {
        still(Edges::laden, run(Edges::laden).ask("speed"), "speed");
        still(x -> { }, 0, "speed");
        one(0, 1, 9).is(89, "speed");
        Run x = one(3, 1, 5);
        x.text("pull 9999");
        x.is(2008, "speed");
        for (int k = 1; k < 9; k++) {
            x.does("boat", 2, 50, 0);
        }
        x.is(2008 - 8 * 100 / 4, "speed").does("hands", 8).is(499 - (7 * 100) / 4, "speed");
    }
}
