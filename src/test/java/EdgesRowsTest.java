/** The boundary cases of Terms 5, of AN IMAGE and THE HOURS TOLD, and of promises 38 to 42, sentence by sentence. */
public final class EdgesRowsTest extends Edges {
    public static void main(String[] args) {
        testAll(EdgesRowsTest.class);
    }

    private static void fleet(Run x) {
        x.does("seed", 99).does("deal", 5).does("rule", 4, 20).does("rule", 2, 1).does("hours", 3);
    }

    /** An image, and the first so many of the numbers that are right by it. */
    private static Run told(Setup setup, int hours, int many) {
        int[] rows = hoursTold(setup, hours);
        Run x = run(setup).does("keep");
        for (int i = 0; i < many; i++) {
            x.does("tell", rows[i]);
        }
        return x;
    }

    // ---- Terms 5

    @Sentence(of = "Terms 5", words = "AN IMAGE keeps all but SHEETS, SLOTS, numbers that wait, THE TAPE;")
    static void whatAnImageKeeps() {
        // All that an image keeps is made otherwise: behind back() it is as it was.
        for (int part = 0; part < Bare.PARTS; part++) {
            Run x = run(Edges::laden).does("keep").does("hours", 9).does("deal", 9).does("seed", 3).does("rule", 0, 1);
            x.does("rule", 1, 2).does("rule", 2, 77).does("rule", 3, 0).does("rule", 4, 100).does("hands", 7).does("hours", 2);
            for (int k = 0; k < 6; k++) {
                x.does("turns", k, (k + 3) % 6).does("set", k, 1, 40 + k).does("set", k, 2, k).does("set", k, 3, 9 * k);
                x.does("ties", k, k % 2);
            }
            x.does("back");
            String want = Bare.part(run(Edges::laden).does("keep"), part);
            due.holds("part " + part + " is as it was", Bare.part(x, part).equals(want));
        }
        // What it does not keep stays as it is now.
        Run y = run().does("sheet", 0, 0, 2).does("lay", 0, 3, 7).does("tell", 1).tape("fee 3").does("keep");
        y.does("mark", 0, 1, 6).does("sheet", 3, 1, 24).does("lay", 0, 3, 8).does("lay", 4, 2, 0).does("tell", 2).tape("+4");
        y.does("back").is(2, "count", 8).is(7, "count", 9).is(8, "rest", 0, 100).is(6, "item", 4, 1).is(1, "mark", 3, 23, 1);
        y.is(0, "text").is(7, "fee");
    }

    @Sentence(of = "Terms 5", words = "all can become as it is (again and again).")
    static void againAndAgain() {
        Run x = run(EdgesRowsTest::fleet).does("keep");
        int[] rows = hoursTold(EdgesRowsTest::fleet, 4);
        for (int again = 0; again < 5; again++) {
            for (int h = 0; h < 4; h++) {
                x.does("hours", 1).is(rows[2 * h], "fleet", 1).is(rows[2 * h + 1], "fleet", 3);
            }
            x.is(5, "back").is(3, "count", 1);
        }
        x.is(5, "back").is(5, "back");
    }

    @Sentence(of = "Terms 5", words = "THE HOURS TOLD: of n HOURS, one behind the other, by THE IMAGE: PLACES of all, together; which BOAT has "
        + "THE SAIL, behind each.")
    static void hoursToldByTheImage() {
        int[] rows = hoursTold(EdgesRowsTest::fleet, 5);
        Run x = run(EdgesRowsTest::fleet).does("keep").does("hours", 50).does("boat", 0, 1, 1).does("seed", 5).does("rule", 4, 100);
        x.text("pull 77");
        for (int v : rows) {
            x.does("tell", v);
        }
        x.is(0, "check", 5);
        // The image has a text of its own, too.
        Setup pulls = y -> { fleet(y); y.text("pull 33"); };
        Run z = told(pulls, 5, 10);
        z.text("pull 44");
        z.is(0, "check", 5);
    }

    // ---- Promise 38

    @Sentence(of = "Promise 38", words = "One more number waits: how many.")
    static void tells() {
        Run x = run();
        int[] any = {0, MIN, MAX, NONE, BAD, -1};
        for (int i = 1; i <= 60; i++) {
            x.is(i, "tell", any[i % any.length]).is(i, "count", 8);
        }
        told(EdgesRowsTest::fleet, 3, 5).is(6, "tell", 0).is(6, "count", 8);
    }

    @Sentence(of = "Promise 38", words = "FULL: 60 wait.")
    static void tellFull() {
        Setup sixty = x -> {
            ladenButWaiting(x);
            for (int v : hoursTold(Edges::ladenImage, 30)) {
                x.does("tell", v);
            }
        };
        run(sixty).is(60, "count", 8).is(0, "check", 30);
        still(sixty, FULL, "tell", 0);
        still(sixty, FULL, "tell", MIN);
        told(EdgesRowsTest::fleet, 30, 59).is(60, "tell", 7).is(FULL, "tell", 7).is(60, "count", 8).is(60, "check", 30);
        run(sixty).does("check", 30).is(1, "tell", 5);
    }

    // ---- Promise 39

    @Sentence(of = "Promise 39", words = "The numbers that wait (none do then, whatever is answered) are THE HOURS TOLD")
    static void noneWaitThen() {
        told(EdgesRowsTest::fleet, 3, 6).is(6, "count", 8).is(0, "check", 3).is(0, "count", 8).is(1, "check", 3).is(0, "count", 8);
        told(EdgesRowsTest::fleet, 3, 5).is(6, "check", 3).is(0, "count", 8).is(1, "tell", 1);
        told(EdgesRowsTest::fleet, 3, 6).is(BAD, "check", 0).is(0, "count", 8).is(1, "tell", 1);
        told(EdgesRowsTest::fleet, 3, 6).is(BAD, "check", 31).is(0, "count", 8).is(1, "tell", 1);
        run().does("tell", 5).is(NO, "check", 1).is(0, "count", 8).is(1, "tell", 1);
    }

    @Sentence(of = "Promise 39", words = "of n (1 .. 30;")
    static void oneToThirtyHours() {
        for (int n : new int[] {1, 2, 29, 30}) {
            told(EdgesRowsTest::fleet, n, 2 * n).is(0, "check", n);
            told(EdgesRowsTest::fleet, n, 2 * n - 1).is(2 * n, "check", n);
        }
        told(EdgesRowsTest::fleet, 30, 60).is(BAD, "check", 31);
        told(EdgesRowsTest::fleet, 1, 0).is(BAD, "check", 0);
    }

    @Sentence(of = "Promise 39", words = "fewer, if THE HOUR would be above 9999), two by two: 0;")
    static void fewerHours() {
        for (int left = 0; left <= 3; left++) {
            int l = left;
            Setup end = x -> { late(x, 99 - l); x.does("boat", 0, 1, 0).does("boat", 0, 1, 0).does("rule", 2, 1); };
            run(end).is(9999 - left, "count", 1);
            for (int n = 1; n <= 4; n++) {
                int hours = Math.min(n, left);
                told(end, hours, 2 * hours).is(0, "check", n);
                told(end, hours, 2 * hours).does("tell", 0).is(1 + 2 * hours, "check", n);
                if (hours > 0) {
                    told(end, hours, 2 * hours - 1).is(2 * hours, "check", n);
                }
            }
            told(end, left, 2 * left).is(0, "check", 30);
        }
        // THE HOUR of THE IMAGE counts, not the one of now.
        Run x = told(EdgesRowsTest::fleet, 30, 60);
        late(x, 96);
        x.is(9999, "count", 1).is(0, "check", 30);
    }

    @Sentence(of = "Promise 39", words = "else 1 and how many stand right ahead of the first that is not")
    static void theFirstThatIsNot() {
        int[] rows = hoursTold(EdgesRowsTest::fleet, 30);
        for (int wrong = 0; wrong < 60; wrong++) {
            for (int by : new int[] {-1, 1}) {
                Run x = run(EdgesRowsTest::fleet).does("keep");
                for (int i = 0; i < 60; i++) {
                    x.does("tell", i == wrong ? rows[i] + by : i > wrong ? -5 : rows[i]);
                }
                x.is(1 + wrong, "check", 30);
            }
        }
        run().does("keep").does("tell", 0).does("tell", 0).is(0, "check", 1);
        run().does("keep").does("tell", 0).does("tell", 1).is(2, "check", 1);
        run().does("keep").does("tell", 1).does("tell", 0).is(1, "check", 1);
    }

    @Sentence(of = "Promise 39", words = "(or is missing, or one too many).")
    static void missingOrTooMany() {
        for (int many = 0; many < 12; many++) {
            told(EdgesRowsTest::fleet, 6, many).is(1 + many, "check", 6);
        }
        for (int hours = 1; hours < 6; hours++) {
            told(EdgesRowsTest::fleet, 6, 2 * hours + 1).is(1 + 2 * hours, "check", hours);
            told(EdgesRowsTest::fleet, 6, 12).is(1 + 2 * hours, "check", hours);
        }
        told(EdgesRowsTest::fleet, 30, 60).is(59, "check", 29);
        told(EdgesRowsTest::fleet, 30, 59).is(60, "check", 30);
        // A number that is missing is not what waited there once.
        told(EdgesRowsTest::fleet, 2, 4).is(0, "check", 2).is(1, "check", 2);
    }

    @Sentence(of = "Promise 39", words = "BAD; NO: there is no IMAGE.")
    static void checkBad() {
        for (int n : new int[] {0, 31, -1, MIN, MAX}) {
            leaves(Edges::laden, Edges::ladenButWaiting, BAD, "check", n);
            run().is(BAD, "check", n);
        }
        leaves(Edges::laden, Edges::ladenButWaiting, 0, "check", 3);
        leaves(Edges::laden, Edges::ladenButWaiting, 7, "check", 4);
    }

    @Sentence(of = "Promise 39", words = "NO: there is no IMAGE.")
    static void checkNo() {
        leaves(Edges::ladenWithoutImage, Edges::ladenWithoutImageAndWaiting, NO, "check", 1);
        leaves(Edges::ladenWithoutImage, Edges::ladenWithoutImageAndWaiting, NO, "check", 30);
        run().is(NO, "check", 1).does("keep").is(1, "check", 1);
    }

    // ---- Promise 40

    @Sentence(of = "Promise 40", words = "AN IMAGE is kept: how many BOATS.")
    static void keeps() {
        run().is(0, "keep");
        boats(1).is(1, "keep");
        Run x = boats(9).is(9, "keep").is(9, "keep");
        x.is(9, "back");
        // It is another one then: what was kept ahead of it is gone.
        Run y = run().is(0, "keep").does("deal", 4).is(4, "keep").does("deal", 5).is(4, "back").is(4, "count", 0).is(4, "back");
        y.does("seed", 8).is(4, "keep").does("seed", 9).does("back").is(8, "count", 10);
        for (int part = 0; part < 2; part++) {
            due.holds("keep() changes nothing that is now", Bare.part(run(Edges::laden).is(6, "keep"), part)
                .equals(Bare.part(run(Edges::laden), part)));
        }
    }

    // ---- Promise 41

    @Sentence(of = "Promise 41", words = "All is as THE IMAGE: how many BOATS.")
    static void backs() {
        run().does("keep").does("deal", 9).is(0, "back").is(0, "count", 0).is(BAD, "told", 0, 0).is(0, "boat", 1, 2, 3);
        boats(9).does("keep").is(9, "back").is(FULL, "boat", 0, 1, 0);
        Run x = run(Edges::laden).is(5, "back").is(6, "count", 1).is(3, "count", 7).is(2, "why", 2).is(1, "why", 1).is(BAD, "told", 5, 0);
        // A new boat has nothing of one that was there before.
        x.does("boat", 1, 2, 3).is(1, "told", 5, 0).is(2, "told", 5, 1).is(0, "told", 5, 2).is(3, "told", 5, 3).is(0, "told", 5, 4);
        x.is(1, "told", 5, 5).is(0, "told", 5, 6);
        Run sail = boats(1).does("keep").does("deal", 8).does("hands", 8).is(8, "fleet", 3).does("back").is(0, "fleet", 3);
        sail.does("hours", 1).is(0, "fleet", 3);
        // The image itself is not what is now: what happens then does not come to it.
        Run y = boats(2).does("keep").does("back").does("set", 0, 2, 77).does("rule", 3, 9).does("ties", 1, 0).does("back");
        y.is(0, "told", 0, 2).is(4, "count", 5).is(1, "told", 1, 5);
    }

    @Sentence(of = "Promise 41", words = "NO: there is none.")
    static void backNo() {
        still(Edges::ladenWithoutImage, NO, "back");
        still(x -> { }, NO, "back");
        run().is(NO, "back").is(0, "keep").is(0, "back");
    }

    // ---- Promise 42

    @Sentence(of = "Promise 42", words = "0 how many BOATS, 1 THE HOUR, 2 .. 6 WIND, LAW, TURN, FISH, STORM, 7 TEXTS, 8 numbers that wait, 9 "
        + "bytes of THE TAPE, 10 z.")
    static void counts() {
        int[] first = {0, 0, 5, 0, 3, 4, 0, 0, 0, 0, 1};
        for (int what = 0; what <= 10; what++) {
            run().is(first[what], "count", what);
        }
        Run x = run().does("hours", 7).does("deal", 9);
        for (int i = 0; i < 14; i++) {
            x.text("fee 1");
        }
        for (int i = 0; i < 60; i++) {
            x.does("tell", 1);
        }
        for (int i = 0; i < 8; i++) {
            x.does("feed", 0, 0, 0);
        }
        x.does("rule", 0, 9).does("rule", 1, 2).does("rule", 2, 99).does("rule", 3, 98).does("rule", 4, 100).does("seed", MIN);
        int[] most = {9, 7, 9, 2, 99, 98, 100, 14, 60, 96, MIN};
        for (int what = 0; what <= 10; what++) {
            x.is(most[what], "count", what);
        }
    }

    @Sentence(of = "Promise 42", words = "BAD.")
    static void countBad() {
        for (int what : new int[] {-1, 11, MIN, MAX}) {
            still(Edges::laden, BAD, "count", what);
        }
        for (int what = 0; what <= 10; what++) {
            still(Edges::laden, run(Edges::laden).ask("count", what), "count", what);
        }
    }
}
