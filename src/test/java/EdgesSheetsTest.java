/** The boundary cases of Terms 5, of SHEETS and SLOTS, and of promises 29 to 37, sentence by sentence. */
public final class EdgesSheetsTest extends Edges {
    private static final int SHORTS = 0;
    private static final int FLOATS = 1;

    public static void main(String[] args) {
        testAll(EdgesSheetsTest.class);
    }

    /** A sheet's places, told by way of the last slot; KIND stands for NO NUMBER. */
    private static void row(Run x, int sheet, int... want) {
        x.does("lay", 4, 2, sheet);
        for (int place = 0; place < want.length; place++) {
            x.is(want[place], "item", 4, place);
        }
        x.is(INDEX, "item", 4, want.length).is(INDEX, "item", 4, -1);
    }

    private static Run made(int sheet, int sort, int... places) {
        Run x = run();
        put(x, sheet, sort, places);
        return x;
    }

    private static void put(Run x, int sheet, int sort, int... places) {
        x.does("sheet", sheet, sort, places.length);
        for (int i = 0; i < places.length; i++) {
            x.does("mark", sheet, i, places[i]);
        }
    }

    // ---- Terms 5

    @Sentence(of = "Terms 5", words = "SHEETS 0 .. 3 are rows of shorts (sort 0) or floats (1; whole numbers),")
    static void fourSheets() {
        for (int sheet = 0; sheet < 4; sheet++) {
            for (int sort = 0; sort < 2; sort++) {
                Run x = run().is(1, "sheet", sheet, sort, 1).is(sort == SHORTS ? KIND : 1, "mark", sheet, 0, NONE);
                for (int other = 0; other < 4; other++) {
                    if (other != sheet) {
                        x.is(NOTHING, "reads", other);
                    }
                }
            }
        }
        run().is(BAD, "sheet", -1, 0, 1).is(BAD, "sheet", 4, 0, 1).is(BAD, "sheet", 0, 2, 1);
        Run x = run();
        for (int sheet = 0; sheet < 4; sheet++) {
            put(x, sheet, sheet % 2, sheet + 10, sheet + 20);
        }
        for (int sheet = 0; sheet < 4; sheet++) {
            row(x, sheet, sheet + 10, sheet + 20);
        }
    }

    @Sentence(of = "Terms 5", words = "with 0 to 24 places,")
    static void placesOfASheet() {
        for (int sort = 0; sort < 2; sort++) {
            for (int n : new int[] {0, 1, 23, 24}) {
                Run x = run().is(n, "sheet", 1, sort, n);
                row(x, 1, new int[n]);
                x.is(INDEX, "mark", 1, n, 1);
            }
            run().is(BAD, "sheet", 1, sort, 25).is(SIZE, "sheet", 1, sort, -1).is(NOTHING, "reads", 1);
        }
    }

    @Sentence(of = "Terms 5", words = "or MISSING (at first).")
    static void missingAtFirst() {
        for (int sheet = 0; sheet < 4; sheet++) {
            Run x = run().is(NOTHING, "reads", sheet).is(NOTHING, "pour", sheet).is(NOTHING, "mark", sheet, 0, 0);
            x.is(NOTHING, "whose", sheet, 0, 0).is(NOTHING, "copy", sheet, 0, sheet, 0, 0).is(NOTHING, "lay", 0, 2, sheet);
            x.does("sheet", sheet, 0, 0).is(NONE, "reads", sheet).does("sheet", sheet, -1, 0).is(NOTHING, "reads", sheet);
        }
    }

    @Sentence(of = "Terms 5", words = "A place of floats may be NO NUMBER.")
    static void noNumber() {
        Run x = run().does("sheet", 0, FLOATS, 24);
        x.is(1, "mark", 0, 0, NONE).is(1, "mark", 0, 23, NONE).does("lay", 0, 2, 0);
        x.is(KIND, "item", 0, 0).is(0, "item", 0, 1).is(KIND, "item", 0, 23);
        x.is(1, "mark", 0, 0, 5).does("lay", 0, 2, 0).is(5, "item", 0, 0).is(KIND, "item", 0, 23);
        run().does("sheet", 0, SHORTS, 1).is(KIND, "mark", 0, 0, NONE);
    }

    @Sentence(of = "Terms 5", words = "SLOTS 0 .. 4 each hold nothing (at first),")
    static void fiveSlots() {
        for (int slot = 0; slot < 5; slot++) {
            Run x = run().is(NOTHING, "ask", slot, 0).is(NOTHING, "item", slot, 0).is(NOTHING, "rest", slot, 1);
            x.is(0, "lay", slot, 3, 100 + slot).is(100 + slot, "rest", slot, 1000);
            for (int other = 0; other < 5; other++) {
                if (other != slot) {
                    x.is(NOTHING, "rest", other, 1000);
                }
            }
        }
        run().is(BAD, "lay", -1, 3, 1).is(BAD, "lay", 5, 3, 1);
    }

    @Sentence(of = "Terms 5", words = "a BOAT (as it is then, for good),")
    static void boatForGood() {
        Run x = run().does("boat", 3, 10, 0).does("lay", 0, 1, 0).is(36, "ask", 0, 3);
        x.does("set", 0, 1, 50).does("turns", 0, 5).is(36, "ask", 0, 3).is(4, "told", 0, 10);
        x.does("lay", 1, 1, 0).is(4, "ask", 1, 5).is(36, "ask", 0, 1).does("hours", 9).is(36, "ask", 0, 0);
        Run y = run().does("keep").does("boat", 1, 7, 0).does("lay", 2, 1, 0).does("back").is(15, "ask", 2, 1);
        y.does("boat", 5, 9, 0).is(15, "ask", 2, 1).is(KIND, "ask", 2, 5);
    }

    @Sentence(of = "Terms 5", words = "a SHEET (a row of its own, as it was then), or a number.")
    static void sheetOfItsOwn() {
        Run x = made(0, FLOATS, 1, NONE, 3).does("lay", 0, 2, 0).does("lay", 1, 2, 0);
        x.does("mark", 0, 0, 9).does("mark", 0, 1, 9).is(1, "item", 0, 0).is(KIND, "item", 0, 1).is(3, "item", 0, 2);
        x.does("sheet", 0, SHORTS, 24).is(1, "item", 0, 0).is(INDEX, "item", 0, 3).is(KIND, "item", 0, 1);
        x.does("sheet", 0, -1, 0).is(3, "item", 0, 2).is(3, "item", 1, 2).does("lay", 1, 0, 0).is(3, "item", 0, 2);
        Run y = made(0, SHORTS, 4, 5).does("lay", 0, 2, 0).does("copy", 0, 0, 0, 1, 1).is(5, "item", 0, 1);
        y.does("lay", 0, 3, 7).is(0, "rest", 0, 7);
    }

    @Sentence(of = "Terms 5", words = "FINDINGS: NOTHING: a SHEET is MISSING, a SLOT holds nothing;")
    static void nothing() {
        still(Edges::laden, NOTHING, "pour", 2);
        still(Edges::laden, NOTHING, "reads", 2);
        still(Edges::laden, NOTHING, "item", 4, 0);
        still(Edges::laden, NOTHING, "ask", 4, 0);
        still(Edges::laden, NOTHING, "rest", 4, 1);
        // A sheet without places, and a slot with such a one, or with 0, are not nothing.
        run(Edges::laden).is(NONE, "reads", 3).is(0, "pour", 3).is(0, "lay", 4, 2, 3).is(INDEX, "item", 4, 0);
        run().does("lay", 0, 3, 0).is(0, "rest", 0, 1);
    }

    @Sentence(of = "Terms 5", words = "INDEX: there is no such place;")
    static void index() {
        run(Edges::laden).is(INDEX, "mark", 0, 5, 0).is(INDEX, "mark", 0, -1, 0).is(INDEX, "mark", 3, 0, 0);
        run(Edges::laden).is(INDEX, "item", 1, 7).is(INDEX, "item", 1, -1).is(INDEX, "copy", 0, 0, 3, 0, 1);
    }

    @Sentence(of = "Terms 5", words = "SIZE: a number of places is below 0;")
    static void size() {
        still(Edges::laden, SIZE, "sheet", 0, SHORTS, -1);
        still(Edges::laden, SIZE, "sheet", 2, FLOATS, MIN);
        run().is(0, "sheet", 0, SHORTS, 0);
    }

    @Sentence(of = "Terms 5", words = "KIND: it is none (of a KIND, a number, or another thing).")
    static void kind() {
        still(Edges::laden, KIND, "ask", 1, 0);
        still(Edges::laden, KIND, "item", 0, 0);
        still(Edges::laden, KIND, "item", 1, 0);
        still(Edges::laden, KIND, "rest", 0, 1);
        still(Edges::laden, KIND, "copy", 0, 0, 1, 0, 1);
        still(Edges::laden, KIND, "mark", 0, 0, NONE);
    }

    // ---- Promise 29

    @Sentence(of = "Promise 29", words = "A SHEET becomes a row of n places of a sort, all 0")
    static void all0() {
        Run x = made(0, FLOATS, 7, NONE, -99999);
        x.is(3, "sheet", 0, FLOATS, 3);
        row(x, 0, 0, 0, 0);
        Run y = made(0, FLOATS, 7, NONE, -99999).is(24, "sheet", 0, SHORTS, 24);
        row(y, 0, new int[24]);
        Run z = made(0, SHORTS, 7, 8, 9).is(1, "sheet", 0, SHORTS, 1).is(3, "sheet", 0, SHORTS, 3);
        row(z, 0, 0, 0, 0);
        Run s = made(0, SHORTS, 7, 8, 9).is(3, "sheet", 0, FLOATS, 3);
        row(s, 0, 0, 0, 0);
        Run t = made(0, SHORTS, 7, 8, 9).is(0, "sheet", 0, FLOATS, 0);
        row(t, 0);
    }

    @Sentence(of = "Promise 29", words = "(sort -1: MISSING, n any): n (0).")
    static void becomesMissing() {
        for (int n : new int[] {0, 24, 25, -1, MIN, MAX}) {
            made(0, SHORTS, 1).is(0, "sheet", 0, -1, n).is(NOTHING, "reads", 0);
            run().is(0, "sheet", 0, -1, n).is(NOTHING, "reads", 0);
        }
        Run x = made(1, FLOATS, 5, NONE).does("sheet", 1, -1, 0).is(2, "sheet", 1, FLOATS, 2);
        row(x, 1, 0, 0);
        still(Edges::laden, 0, "sheet", 2, -1, 7);
    }

    @Sentence(of = "Promise 29", words = "BAD: sheet, sort, n above 24;")
    static void sheetBad() {
        int[][] bad = {{-1, 0, 1}, {4, 0, 1}, {MIN, 0, 1}, {MAX, 0, 1}, {-1, -1, 0}, {4, -1, 0}, {0, -2, 1}, {0, 2, 1}, {0, MIN, 1},
            {0, MAX, 1}, {0, 0, 25}, {1, 1, 25}, {0, 0, MAX}, {2, 0, 25}, {4, 0, -1}, {0, 2, -1}, {0, -2, -1}};
        for (int[] b : bad) {
            still(Edges::laden, BAD, "sheet", b);
        }
    }

    @Sentence(of = "Promise 29", words = "SIZE.")
    static void sheetSize() {
        for (int n : new int[] {-1, -25, MIN}) {
            still(Edges::laden, SIZE, "sheet", 0, SHORTS, n);
            still(Edges::laden, SIZE, "sheet", 1, FLOATS, n);
            still(Edges::laden, SIZE, "sheet", 2, SHORTS, n);
        }
    }

    // ---- Promise 30

    @Sentence(of = "Promise 30", words = "A place of a SHEET becomes v (of shorts its lowest 16 bits;")
    static void shorts() {
        int[][] marks = {{0, 0}, {32767, 32767}, {32768, -32768}, {65535, -1}, {65536, 0}, {65537, 1}, {-1, -1}, {-32768, -32768},
            {-32769, 32767}, {MIN, 0}, {MAX, -1}, {MIN + 7, 7}, {99999, -31073}, {100000, -31072}, {NONE - 1, (short) (NONE - 1)},
            {NONE + 1, (short) (NONE + 1)}, {BAD, (short) BAD}};
        for (int[] m : marks) {
            Run x = made(0, SHORTS, 1, 2, 3).is(1, "mark", 0, 1, m[0]);
            row(x, 0, 1, m[1], 3);
        }
        Run y = run().does("sheet", 3, SHORTS, 24).is(1, "mark", 3, 23, 5).is(1, "mark", 3, 0, 4).does("lay", 0, 2, 3);
        y.is(4, "item", 0, 0).is(5, "item", 0, 23).is(0, "item", 0, 22);
    }

    @Sentence(of = "Promise 30", words = "of floats v, -99999 .. 99999; NONE: NO NUMBER): 1.")
    static void floats() {
        for (int v : new int[] {0, 1, -1, 32768, -32769, 65536, 99998, 99999, -99998, -99999}) {
            Run x = made(0, FLOATS, 1, 2, 3).is(1, "mark", 0, 1, v);
            row(x, 0, 1, v, 3);
        }
        for (int v : new int[] {100000, -100000}) {
            Run x = made(0, FLOATS, 1, 2, 3).is(BAD, "mark", 0, 1, v);
            row(x, 0, 1, 2, 3);
        }
        Run x = made(0, FLOATS, 1, 2, 3).is(1, "mark", 0, 1, NONE);
        row(x, 0, 1, KIND, 3);
        x.is(1, "mark", 0, 1, 4);
        row(x, 0, 1, 4, 3);
    }

    @Sentence(of = "Promise 30", words = "BAD: sheet; NOTHING; INDEX;")
    static void markBad() {
        for (int sheet : new int[] {-1, 4, MIN, MAX}) {
            still(Edges::laden, BAD, "mark", sheet, 0, 0);
            still(Edges::laden, BAD, "mark", sheet, -1, NONE);
        }
    }

    @Sentence(of = "Promise 30", words = "NOTHING; INDEX;")
    static void markNothing() {
        still(Edges::laden, NOTHING, "mark", 2, 0, 0);
        still(Edges::laden, NOTHING, "mark", 2, -1, NONE);
        still(Edges::laden, NOTHING, "mark", 2, 24, 100000);
    }

    @Sentence(of = "Promise 30", words = "INDEX; KIND: NONE in a row of shorts;")
    static void markIndex() {
        int[][] bad = {{0, -1, 0}, {0, 5, 0}, {0, MIN, 0}, {0, MAX, 0}, {1, 7, 0}, {3, 0, 0}, {0, 5, NONE}, {0, -1, NONE},
            {1, 7, 100000}, {1, -1, MIN}, {0, 24, 0}};
        for (int[] b : bad) {
            still(Edges::laden, INDEX, "mark", b);
        }
        run().does("sheet", 0, 0, 24).is(1, "mark", 0, 23, 0).is(INDEX, "mark", 0, 24, 0);
    }

    @Sentence(of = "Promise 30", words = "KIND: NONE in a row of shorts;")
    static void markKind() {
        still(Edges::laden, KIND, "mark", 0, 0, NONE);
        still(Edges::laden, KIND, "mark", 0, 4, NONE);
        run(Edges::laden).is(1, "mark", 1, 6, NONE);
    }

    @Sentence(of = "Promise 30", words = "BAD: v of floats.")
    static void markBadFloats() {
        for (int v : new int[] {100000, -100000, 1000000, -1000000, NONE - 1, NONE + 1, BAD, MIN, MAX}) {
            still(Edges::laden, BAD, "mark", 1, 0, v);
            still(Edges::laden, BAD, "mark", 1, 6, v);
        }
    }

    // ---- Promise 31

    @Sentence(of = "Promise 31", words = "WANTS of BOATS, by numbers, become the places of a SHEET from 0 on")
    static void pours() {
        Run x = boats(9);
        put(x, 3, SHORTS, 10, 11, 12, 13, 14, 15, 16, 17, 18, 19, 20);
        x.is(9, "pour", 3);
        for (int k = 0; k < 9; k++) {
            x.is(10 + k, "told", k, 3).is(0, "told", k, 2).is(1, "told", k, 1);
        }
        made(0, SHORTS, 1, 2, 3).is(0, "pour", 0);
    }

    @Sentence(of = "Promise 31", words = "(each held within 0 .. 9999;")
    static void poursWithin() {
        Run x = boats(6);
        put(x, 0, FLOATS, -1, 0, 9999, 10000, 99999, -99999);
        x.does("set", 0, 3, 7).does("set", 5, 3, 8).is(5, "pour", 0);
        x.is(0, "told", 0, 3).is(0, "told", 1, 3).is(9999, "told", 2, 3).is(9999, "told", 3, 3).is(9999, "told", 4, 3);
        x.is(0, "told", 5, 3);
        Run y = boats(4);
        put(y, 0, SHORTS, -32768, 32767, 9998, 10000);
        y.is(3, "pour", 0).is(0, "told", 0, 3).is(9999, "told", 1, 3).is(9998, "told", 2, 3).is(9999, "told", 3, 3);
    }

    @Sentence(of = "Promise 31", words = "NO NUMBER, and beyond the SHEET: they stay):")
    static void poursAndTheyStay() {
        Run x = run();
        for (int k = 0; k < 5; k++) {
            x.does("boat", 0, 1, 100 + k);
        }
        put(x, 0, FLOATS, NONE, 5, NONE);
        x.is(1, "pour", 0).is(100, "told", 0, 3).is(5, "told", 1, 3).is(102, "told", 2, 3).is(103, "told", 3, 3);
        x.is(104, "told", 4, 3).does("sheet", 1, SHORTS, 0).is(0, "pour", 1).is(100, "told", 0, 3);
        still(Edges::laden, 0, "pour", 3);
    }

    @Sentence(of = "Promise 31", words = "how many are otherwise then.")
    static void poursOtherwise() {
        Run x = run().does("boat", 0, 1, 0).does("boat", 0, 1, 9999).does("boat", 0, 1, 50);
        put(x, 0, FLOATS, -5, 12345, 50);
        x.is(0, "pour", 0).does("mark", 0, 2, 51).is(1, "pour", 0).is(0, "pour", 0).does("mark", 0, 0, 1).is(1, "pour", 0);
        x.does("mark", 0, 1, 9998).is(1, "pour", 0).is(0, "pour", 0);
    }

    @Sentence(of = "Promise 31", words = "BAD; NOTHING.")
    static void pourBad() {
        for (int sheet : new int[] {-1, 4, MIN, MAX}) {
            still(Edges::laden, BAD, "pour", sheet);
        }
    }

    @Sentence(of = "Promise 31", words = "NOTHING.")
    static void pourNothing() {
        still(Edges::laden, NOTHING, "pour", 2);
        for (int sheet = 0; sheet < 4; sheet++) {
            run().is(NOTHING, "pour", sheet);
        }
    }

    // ---- Promise 32

    @Sentence(of = "Promise 32", words = "The first place (of numbers alone) at which a SHEET is not PLACE of that BOAT")
    static void readsFirst() {
        for (int sort = 0; sort < 2; sort++) {
            for (int wrong = 0; wrong < 9; wrong++) {
                Run x = boats(9);
                for (int k = 0; k < 9; k++) {
                    x.does("set", k, 2, 9991 + k);
                }
                put(x, 2, sort, 9991, 9992, 9993, 9994, 9995, 9996, 9997, 9998, 9999);
                x.is(NONE, "reads", 2).does("mark", 2, 8, 0).does("mark", 2, wrong, 9992 + wrong).is(wrong, "reads", 2);
            }
        }
        Run y = boats(2).does("set", 0, 2, 7);
        put(y, 0, FLOATS, NONE, 1);
        y.is(1, "reads", 0).does("mark", 0, 1, NONE).is(NONE, "reads", 0).does("mark", 0, 0, 6).is(0, "reads", 0);
    }

    @Sentence(of = "Promise 32", words = "(of places that are no BOAT all numbers are not).")
    static void readsBeyondBoats() {
        Run x = boats(2).does("sheet", 0, SHORTS, 3).is(2, "reads", 0).does("sheet", 0, SHORTS, 2).is(NONE, "reads", 0);
        x.does("sheet", 0, FLOATS, 5).is(2, "reads", 0).does("mark", 0, 2, NONE).is(3, "reads", 0).does("mark", 0, 3, NONE);
        x.is(4, "reads", 0).does("mark", 0, 4, NONE).is(NONE, "reads", 0);
        run().does("sheet", 0, SHORTS, 1).is(0, "reads", 0);
        Run y = boats(9).does("sheet", 0, FLOATS, 24);
        for (int place = 9; place < 23; place++) {
            y.is(place, "reads", 0).does("mark", 0, place, NONE);
        }
        y.is(23, "reads", 0).does("mark", 0, 23, NONE).is(NONE, "reads", 0);
        // Boats that an image took away are no boats.
        boats(1).does("keep").does("boat", 0, 1, 0).does("sheet", 0, SHORTS, 2).is(NONE, "reads", 0).does("back").is(1, "reads", 0);
    }

    @Sentence(of = "Promise 32", words = "BAD; NOTHING;")
    static void readsBad() {
        for (int sheet : new int[] {-1, 4, MIN, MAX}) {
            still(Edges::laden, BAD, "reads", sheet);
        }
        still(Edges::laden, NOTHING, "reads", 2);
        for (int sheet = 0; sheet < 4; sheet++) {
            run().is(NOTHING, "reads", sheet);
        }
    }

    @Sentence(of = "Promise 32", words = "NONE: there is none.")
    static void readsNone() {
        still(Edges::laden, NONE, "reads", 3);
        boats(3).does("sheet", 0, SHORTS, 2).is(NONE, "reads", 0);
        run().does("sheet", 0, FLOATS, 1).does("mark", 0, 0, NONE).is(NONE, "reads", 0);
        still(Edges::laden, 0, "reads", 0);
    }

    // ---- Promise 33

    @Sentence(of = "Promise 33", words = "So many places of a SHEET come to another one (or the same), as they were: many.")
    static void copies() {
        Run x = made(0, SHORTS, 1, 2, 3, 4, 5);
        put(x, 1, SHORTS, 11, 12, 13);
        x.is(2, "copy", 0, 3, 1, 1, 2);
        row(x, 1, 11, 4, 5);
        row(x, 0, 1, 2, 3, 4, 5);
        x.is(3, "copy", 1, 0, 0, 0, 3);
        row(x, 0, 11, 4, 5, 4, 5);
        x.is(0, "copy", 0, 0, 1, 0, 0).is(0, "copy", 0, 5, 1, 3, 0);
        row(x, 1, 11, 4, 5);
        Run on = made(0, SHORTS, 1, 2, 3, 4, 5).is(4, "copy", 0, 0, 0, 1, 4);
        row(on, 0, 1, 1, 2, 3, 4);
        Run back = made(0, FLOATS, 1, NONE, 3, 4, 5).is(4, "copy", 0, 1, 0, 0, 4);
        row(back, 0, KIND, 3, 4, 5, 5);
        Run itself = made(0, FLOATS, 1, NONE, 3).is(3, "copy", 0, 0, 0, 0, 3);
        row(itself, 0, 1, KIND, 3);
        Run over = made(0, FLOATS, NONE, 7);
        put(over, 1, FLOATS, 8, NONE);
        over.is(2, "copy", 0, 0, 1, 0, 2);
        row(over, 1, KIND, 7);
        Run all = run().does("sheet", 2, SHORTS, 24).does("sheet", 3, SHORTS, 24).does("mark", 2, 0, 8).does("mark", 2, 23, 9);
        all.is(24, "copy", 2, 0, 3, 0, 24).does("lay", 0, 2, 3).is(8, "item", 0, 0).is(9, "item", 0, 23).is(0, "item", 0, 12);
    }

    @Sentence(of = "Promise 33", words = "BAD; NOTHING; KIND: they are not of one sort; INDEX.")
    static void copyBad() {
        int[][] bad = {{-1, 0, 0, 0, 0}, {4, 0, 0, 0, 0}, {MIN, 0, 0, 0, 0}, {MAX, 0, 0, 0, 0}, {0, 0, -1, 0, 0}, {0, 0, 4, 0, 0},
            {0, 0, MIN, 0, 0}, {0, 0, MAX, 0, 0}, {2, 0, 4, 0, 0}, {4, 0, 2, 0, 0}, {4, -1, 1, -1, -1}};
        for (int[] b : bad) {
            still(Edges::laden, BAD, "copy", b);
        }
    }

    @Sentence(of = "Promise 33", words = "NOTHING; KIND: they are not of one sort; INDEX.")
    static void copyNothing() {
        int[][] bad = {{2, 0, 0, 0, 0}, {0, 0, 2, 0, 0}, {2, 0, 2, 0, 0}, {1, 0, 2, 0, 0}, {2, 0, 1, 0, 0}, {2, 9, 0, 9, 9},
            {0, -1, 2, -1, -1}};
        for (int[] b : bad) {
            still(Edges::laden, NOTHING, "copy", b);
        }
    }

    @Sentence(of = "Promise 33", words = "KIND: they are not of one sort; INDEX.")
    static void copyKind() {
        int[][] bad = {{0, 0, 1, 0, 1}, {1, 0, 0, 0, 1}, {0, 0, 1, 0, 0}, {3, 0, 1, 0, 0}, {1, 0, 3, 0, 0}, {0, 9, 1, 9, 9},
            {1, -1, 0, -1, -1}, {0, MAX, 1, MIN, MAX}};
        for (int[] b : bad) {
            still(Edges::laden, KIND, "copy", b);
        }
    }

    @Sentence(of = "Promise 33", words = "INDEX.")
    static void copyIndex() {
        // Of sheet 0, of 5 places, to itself; of sheet 1, of 7; of sheet 3, of none.
        int[][] good = {{0, 0, 0, 0, 5}, {0, 4, 0, 4, 1}, {0, 5, 0, 5, 0}, {0, 0, 0, 5, 0}, {1, 6, 1, 6, 1}, {3, 0, 3, 0, 0},
            {3, 0, 0, 5, 0}};
        for (int[] g : good) {
            still(Edges::laden, g[4], "copy", g);
        }
        int[][] bad = {{0, 0, 0, 0, 6}, {0, 1, 0, 0, 5}, {0, 0, 0, 1, 5}, {0, 5, 0, 0, 1}, {0, 0, 0, 5, 1}, {0, 6, 0, 0, 0},
            {0, 0, 0, 6, 0}, {0, -1, 0, 0, 1}, {0, 0, 0, -1, 1}, {0, -1, 0, 0, 0}, {0, 0, 0, -1, 0}, {0, 0, 0, 0, -1},
            {0, 5, 0, 5, -1}, {3, 0, 0, 0, 1}, {0, 0, 3, 0, 1}, {3, 1, 3, 0, 0}, {1, 7, 1, 0, 1}, {0, MAX, 0, 0, 1},
            {0, 0, 0, MAX, 1}, {0, 1, 0, 1, MAX}, {0, 0, 0, 0, MIN}, {0, MIN, 0, MIN, 1}, {0, MAX, 0, MAX, MAX},
            {0, MAX, 0, 0, MIN}, {0, MIN, 0, MIN, MIN}};
        for (int[] b : bad) {
            still(Edges::laden, INDEX, "copy", b);
        }
    }

    @Sentence(of = "Promise 33", words = "(From a SHEET, its place, to a SHEET, its place.)")
    static void copyFromTo() {
        Run x = made(0, SHORTS, 1, 2, 3);
        put(x, 1, SHORTS, 11, 12, 13, 14);
        x.is(1, "copy", 0, 2, 1, 0, 1);
        row(x, 1, 3, 12, 13, 14);
        row(x, 0, 1, 2, 3);
        x.is(1, "copy", 0, 0, 1, 3, 1).is(INDEX, "copy", 0, 3, 1, 0, 1).is(INDEX, "copy", 1, 0, 0, 3, 1);
        row(x, 1, 3, 12, 13, 1);
    }

    // ---- Promise 34

    @Sentence(of = "Promise 34", words = "A SLOT holds: thing 0 nothing, 1 BOAT k, 2 SHEET k, 3 the number k: what it held (0 .. 3).")
    static void lays() {
        for (int slot = 0; slot < 5; slot++) {
            Run x = boats(9).does("turns", 8, 3).does("sheet", 3, FLOATS, 1).does("mark", 3, 0, 5);
            x.is(0, "lay", slot, 1, 8).is(18, "ask", slot, 3).is(1, "lay", slot, 2, 3).is(5, "item", slot, 0);
            x.is(2, "lay", slot, 3, MIN).is(-1, "rest", slot, MAX).is(3, "lay", slot, 0, MAX).is(NOTHING, "rest", slot, 1);
            x.is(0, "lay", slot, 0, MIN).is(0, "lay", slot, 3, MAX).is(3, "lay", slot, 1, 0).is(1, "ask", slot, 0);
            x.is(KIND, "rest", slot, 1).is(KIND, "item", slot, 0);
        }
        still(x -> { laden(x); x.does("lay", 4, 0, 0); }, 0, "lay", 4, 0, 77);
        still(Edges::laden, 3, "lay", 2, 3, -77);
        still(Edges::laden, 1, "lay", 0, 1, 1);
        still(Edges::laden, 2, "lay", 1, 2, 1);
    }

    @Sentence(of = "Promise 34", words = "BAD: slot, thing, k;")
    static void layBad() {
        int[][] bad = {{-1, 3, 0}, {5, 3, 0}, {MIN, 0, 0}, {MAX, 0, 0}, {0, -1, 0}, {0, 4, 0}, {0, MIN, 0}, {0, MAX, 0}, {0, 1, -1},
            {0, 1, 6}, {0, 1, 9}, {0, 1, MIN}, {0, 1, MAX}, {0, 2, -1}, {0, 2, 4}, {0, 2, MIN}, {0, 2, MAX}, {5, 2, 2}, {-1, 2, 2}};
        for (int[] b : bad) {
            still(Edges::laden, BAD, "lay", b);
        }
        run().is(BAD, "lay", 0, 1, 0);
        boats(9).is(0, "lay", 0, 1, 8).is(BAD, "lay", 0, 1, 9);
    }

    @Sentence(of = "Promise 34", words = "NOTHING: that SHEET is MISSING.")
    static void layNothing() {
        for (int slot = 0; slot < 5; slot++) {
            still(Edges::laden, NOTHING, "lay", slot, 2, 2);
        }
        for (int sheet = 0; sheet < 4; sheet++) {
            run().is(NOTHING, "lay", 0, 2, sheet).does("sheet", sheet, 0, 0).is(0, "lay", 0, 2, sheet);
        }
    }

    // ---- Promise 35

    @Sentence(of = "Promise 35", words = "WORTH of the BOAT in a SLOT, taken for one of a KIND (0 .. 5).")
    static void asksWorth() {
        String[] above = {"0", "01", "02", "013", "024", "05"};
        int[] least = {1, 9, 98, 18, 91, 4};
        int[] most = {50, 58, 49, 116, 42, 4};
        for (int kind = 0; kind < 6; kind++) {
            for (char as : above[kind].toCharArray()) {
                run().does("boat", kind, 1, 0).does("lay", 4, 1, 0).is(least[kind], "ask", 4, as - '0');
                run().does("boat", kind, 50, 0).does("lay", 0, 1, 0).is(most[kind], "ask", 0, as - '0');
            }
        }
    }

    @Sentence(of = "Promise 35", words = "BAD; NOTHING;")
    static void askBad() {
        int[][] bad = {{-1, 0}, {5, 0}, {MIN, 0}, {MAX, 0}, {0, -1}, {0, 6}, {0, MIN}, {0, MAX}, {4, -1}, {4, 6}, {1, 6}, {2, -1}};
        for (int[] b : bad) {
            still(Edges::laden, BAD, "ask", b);
        }
    }

    @Sentence(of = "Promise 35", words = "NOTHING; KIND: it is no BOAT,")
    static void askNothing() {
        for (int kind = 0; kind < 6; kind++) {
            still(Edges::laden, NOTHING, "ask", 4, kind);
        }
        boats(1).does("lay", 0, 1, 0).does("lay", 0, 0, 0).is(NOTHING, "ask", 0, 0);
    }

    @Sentence(of = "Promise 35", words = "KIND: it is no BOAT, or not of that KIND, nor of one under it.")
    static void askKind() {
        still(Edges::laden, KIND, "ask", 1, 0);
        still(Edges::laden, KIND, "ask", 2, 0);
        String[] above = {"0", "01", "02", "013", "024", "05"};
        for (int kind = 0; kind < 6; kind++) {
            for (int as = 0; as < 6; as++) {
                if (above[kind].indexOf('0' + as) < 0) {
                    run().does("boat", kind, 7, 0).does("lay", 0, 1, 0).is(KIND, "ask", 0, as);
                }
            }
        }
    }

    // ---- Promise 36

    @Sentence(of = "Promise 36", words = "A place of the SHEET in a SLOT.")
    static void items() {
        Run x = run().does("sheet", 0, SHORTS, 24).does("mark", 0, 0, -32768).does("mark", 0, 23, 32767).does("lay", 4, 2, 0);
        x.is(-32768, "item", 4, 0).is(32767, "item", 4, 23).is(0, "item", 4, 1).is(INDEX, "item", 4, 24).is(INDEX, "item", 4, -1);
        Run y = made(0, FLOATS, -99999, 99999).does("lay", 0, 2, 0).is(-99999, "item", 0, 0).is(99999, "item", 0, 1);
        y.is(INDEX, "item", 0, 2);
        still(Edges::laden, 99999, "item", 1, 3);
    }

    @Sentence(of = "Promise 36", words = "BAD: slot; NOTHING;")
    static void itemBad() {
        for (int slot : new int[] {-1, 5, MIN, MAX}) {
            still(Edges::laden, BAD, "item", slot, 0);
            still(Edges::laden, BAD, "item", slot, 24);
        }
        still(Edges::laden, NOTHING, "item", 4, 0);
        still(Edges::laden, NOTHING, "item", 4, -1);
    }

    @Sentence(of = "Promise 36", words = "KIND: it is no SHEET;")
    static void itemOfNoSheet() {
        still(Edges::laden, KIND, "item", 0, 0);
        still(Edges::laden, KIND, "item", 2, 0);
        still(Edges::laden, KIND, "item", 0, -1);
        still(Edges::laden, KIND, "item", 2, 24);
    }

    @Sentence(of = "Promise 36", words = "INDEX; KIND: NO NUMBER.")
    static void itemIndex() {
        for (int place : new int[] {-1, 7, 24, MIN, MAX}) {
            still(Edges::laden, INDEX, "item", 1, place);
        }
        run().does("sheet", 0, FLOATS, 0).does("lay", 0, 2, 0).is(INDEX, "item", 0, 0);
        // What a longer row once had in that place is not seen.
        made(0, FLOATS, 1, NONE).does("lay", 0, 2, 0).does("sheet", 0, FLOATS, 1).does("lay", 0, 2, 0).is(INDEX, "item", 0, 1);
    }

    @Sentence(of = "Promise 36", words = "KIND: NO NUMBER.")
    static void itemOfNoNumber() {
        still(Edges::laden, KIND, "item", 1, 0);
        made(0, FLOATS, 0, NONE).does("lay", 0, 2, 0).is(0, "item", 0, 0).is(KIND, "item", 0, 1);
    }

    // ---- Promise 37

    @Sentence(of = "Promise 37", words = "The rest of the number in a SLOT by n.")
    static void rests() {
        int[][] rests = {{17, 5, 2}, {-17, 5, -2}, {17, -5, 2}, {-17, -5, -2}, {0, 5, 0}, {5, 5, 0}, {4, 5, 4}, {7, 1, 0}, {7, -1, 0},
            {MIN, -1, 0}, {MIN, MIN, 0}, {MIN, MAX, -1}, {MAX, MIN, MAX}, {MAX, MAX, 0}, {MIN, 10, -8}, {NONE, 10, -5}};
        for (int[] r : rests) {
            run().does("lay", 4, 3, r[0]).is(r[2], "rest", 4, r[1]);
        }
        still(Edges::laden, -7, "rest", 2, 10);
    }

    @Sentence(of = "Promise 37", words = "BAD: slot; NOTHING;")
    static void restBad() {
        for (int slot : new int[] {-1, 5, MIN, MAX}) {
            still(Edges::laden, BAD, "rest", slot, 1);
            still(Edges::laden, BAD, "rest", slot, 0);
        }
        still(Edges::laden, NOTHING, "rest", 4, 1);
        still(Edges::laden, NOTHING, "rest", 4, 0);
    }

    @Sentence(of = "Promise 37", words = "KIND: it is no number;")
    static void restKind() {
        still(Edges::laden, KIND, "rest", 0, 1);
        still(Edges::laden, KIND, "rest", 1, 1);
        still(Edges::laden, KIND, "rest", 0, 0);
        still(Edges::laden, KIND, "rest", 3, 0);
    }

    @Sentence(of = "Promise 37", words = "NO: n is 0.")
    static void restBy0() {
        still(Edges::laden, NO, "rest", 2, 0);
        run().does("lay", 0, 3, 0).is(NO, "rest", 0, 0).is(0, "rest", 0, 1).is(0, "rest", 0, -1);
    }
}
