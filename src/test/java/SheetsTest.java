/** Promises 29 to 37. */
public final class SheetsTest {
    private static final int BAD = NineSail.BAD;
    private static final int NONE = NineSail.NONE;
    private static final int NOTHING = NineSail.NOTHING;
    private static final int KIND = NineSail.KIND;
    private static final int INDEX = NineSail.INDEX;
    private static final Due due = new Due("SheetsTest");

    public static void main(String[] args) {
        sheet();
        sheetAgain();
        markShorts();
        markFloats();
        pour();
        reads();
        copy();
        copyRefused();
        copyNoNumbers();
        lay();
        laidForGood();
        ask();
        item();
        rest();
        due.end();
    }

    /** What a sheet's place is, told by way of a slot. */
    private static int at(NineSail x, int sheet, int place) {
        x.lay(4, 2, sheet);
        return x.item(4, place);
    }

    private static void row(NineSail x, int sheet, int... want) {
        for (int i = 0; i < want.length; i++) {
            due.is("place " + i + " of sheet " + sheet, at(x, sheet, i), want[i]);
        }
        due.is("no place " + want.length + " of sheet " + sheet, at(x, sheet, want.length), INDEX);
    }

    private static void sheet() {
        due.promise("promise 29");
        NineSail x = new NineSail();
        due.is("sheet(0, 0, 24)", x.sheet(0, 0, 24), 24);
        row(x, 0, new int[24]);
        due.is("sheet(3, 1, 0)", x.sheet(3, 1, 0), 0);
        row(x, 3);
        due.is("sheet(1, 1, 3)", x.sheet(1, 1, 3), 3);
        row(x, 1, 0, 0, 0);
        due.is("sheet(-1, 0, 1)", x.sheet(-1, 0, 1), BAD);
        due.is("sheet(4, 0, 1)", x.sheet(4, 0, 1), BAD);
        due.is("sheet(4, -1, 1)", x.sheet(4, -1, 1), BAD);
        due.is("sheet(1, -2, 1)", x.sheet(1, -2, 1), BAD);
        due.is("sheet(1, 2, 1)", x.sheet(1, 2, 1), BAD);
        due.is("sheet(1, 0, 25)", x.sheet(1, 0, 25), BAD);
        due.is("sheet(1, 0, MAX)", x.sheet(1, 0, Integer.MAX_VALUE), BAD);
        due.is("sheet(1, 0, -1)", x.sheet(1, 0, -1), NineSail.SIZE);
        due.is("sheet(1, 1, MIN)", x.sheet(1, 1, Integer.MIN_VALUE), NineSail.SIZE);
        due.is("sheet(4, 0, -1): bad stands first", x.sheet(4, 0, -1), BAD);
        due.is("sheet(1, 2, -1): bad stands first", x.sheet(1, 2, -1), BAD);
        row(x, 1, 0, 0, 0);
        due.is("sheet(1, -1, 99)", x.sheet(1, -1, 99), 0);
        due.is("sheet(1, -1, -99), missing again", x.sheet(1, -1, -99), 0);
        due.is("reads(1)", x.reads(1), NOTHING);
    }

    private static void sheetAgain() {
        due.promise("promise 29");
        NineSail x = new NineSail();
        x.sheet(0, 1, 3);
        x.mark(0, 0, NONE);
        x.mark(0, 1, 5);
        x.sheet(0, 1, 2);
        row(x, 0, 0, 0);
        x.mark(0, 1, NONE);
        x.sheet(0, 0, 3);
        row(x, 0, 0, 0, 0);
        x.mark(0, 2, 9);
        x.sheet(0, 0, 1);
        x.sheet(0, 0, 3);
        row(x, 0, 0, 0, 0);
    }

    private static void markShorts() {
        due.promise("promise 30");
        NineSail x = new NineSail();
        due.is("mark(4, 0, 0)", x.mark(4, 0, 0), BAD);
        due.is("mark(-1, 0, 0)", x.mark(-1, 0, 0), BAD);
        due.is("mark(0, 0, 0) of a missing one", x.mark(0, 0, 0), NOTHING);
        due.is("mark(0, -1, NONE): nothing stands first", x.mark(0, -1, NONE), NOTHING);
        x.sheet(0, 0, 5);
        due.is("mark(0, 0, 32767)", x.mark(0, 0, 32767), 1);
        due.is("mark(0, 1, 32768)", x.mark(0, 1, 32768), 1);
        due.is("mark(0, 2, 65535)", x.mark(0, 2, 65535), 1);
        due.is("mark(0, 3, MIN + 7)", x.mark(0, 3, Integer.MIN_VALUE + 7), 1);
        due.is("mark(0, 4, -3)", x.mark(0, 4, -3), 1);
        row(x, 0, 32767, -32768, -1, 7, -3);
        due.is("mark(0, 5, 0)", x.mark(0, 5, 0), INDEX);
        due.is("mark(0, -1, 0)", x.mark(0, -1, 0), INDEX);
        due.is("mark(0, 5, NONE): the place stands first", x.mark(0, 5, NONE), INDEX);
        due.is("mark(0, 4, NONE)", x.mark(0, 4, NONE), KIND);
        row(x, 0, 32767, -32768, -1, 7, -3);
        x.sheet(1, 0, 0);
        due.is("mark(1, 0, 0) of no places", x.mark(1, 0, 0), INDEX);
    }

    private static void markFloats() {
        due.promise("promise 30");
        NineSail x = new NineSail();
        x.sheet(2, 1, 4);
        due.is("mark(2, 0, 99999)", x.mark(2, 0, 99999), 1);
        due.is("mark(2, 1, -99999)", x.mark(2, 1, -99999), 1);
        due.is("mark(2, 2, NONE)", x.mark(2, 2, NONE), 1);
        due.is("mark(2, 3, 12345)", x.mark(2, 3, 12345), 1);
        row(x, 2, 99999, -99999, KIND, 12345);
        due.is("mark(2, 0, 100000)", x.mark(2, 0, 100000), BAD);
        due.is("mark(2, 0, -100000)", x.mark(2, 0, -100000), BAD);
        due.is("mark(2, 0, MIN)", x.mark(2, 0, Integer.MIN_VALUE), BAD);
        due.is("mark(2, 0, 1000000)", x.mark(2, 0, 1000000), BAD);
        due.is("mark(2, 4, 100000): the place stands first", x.mark(2, 4, 100000), INDEX);
        row(x, 2, 99999, -99999, KIND, 12345);
        due.is("mark(2, 2, 3)", x.mark(2, 2, 3), 1);
        row(x, 2, 99999, -99999, 3, 12345);
    }

    private static void pour() {
        due.promise("promise 31");
        NineSail x = new NineSail();
        due.is("pour(-1)", x.pour(-1), BAD);
        due.is("pour(4)", x.pour(4), BAD);
        due.is("pour(0)", x.pour(0), NOTHING);
        for (int k = 0; k < 6; k++) {
            x.boat(0, 1, 100 + k);
        }
        x.sheet(0, 1, 5);
        x.mark(0, 0, 10000);
        x.mark(0, 1, -1);
        x.mark(0, 2, NONE);
        x.mark(0, 3, 103);
        x.mark(0, 4, 9998);
        due.is("pour(0)", x.pour(0), 3);
        int[] wants = {9999, 0, 102, 103, 9998, 105};
        for (int k = 0; k < 6; k++) {
            due.is("WANT of " + k, x.told(k, 3), wants[k]);
        }
        due.is("pour(0) again", x.pour(0), 0);
        x.sheet(1, 0, 9);
        x.mark(1, 0, 32767);
        x.mark(1, 1, -5);
        due.is("pour(1): more places than boats", x.pour(1), 4);
        int[] later = {9999, 0, 0, 0, 0, 0};
        for (int k = 0; k < 6; k++) {
            due.is("WANT of " + k, x.told(k, 3), later[k]);
        }
        x.sheet(2, 0, 0);
        due.is("pour(2) of no places", x.pour(2), 0);
    }

    private static void reads() {
        due.promise("promise 32");
        NineSail x = new NineSail();
        due.is("reads(-1)", x.reads(-1), BAD);
        due.is("reads(4)", x.reads(4), BAD);
        due.is("reads(0)", x.reads(0), NOTHING);
        x.boat(0, 1, 0);
        x.boat(0, 1, 0);
        x.set(0, 2, 7);
        x.set(1, 2, 8);
        x.sheet(0, 1, 4);
        due.is("reads(0)", x.reads(0), 0);
        x.mark(0, 0, NONE);
        due.is("reads(0): of numbers alone", x.reads(0), 1);
        x.mark(0, 0, 7);
        x.mark(0, 1, 8);
        due.is("reads(0): no boat is there, also for 0", x.reads(0), 2);
        x.mark(0, 2, NONE);
        due.is("reads(0)", x.reads(0), 3);
        x.mark(0, 3, NONE);
        due.is("reads(0)", x.reads(0), NONE);
        x.sheet(1, 0, 1);
        x.mark(1, 0, 7);
        due.is("reads(1): fewer places than boats", x.reads(1), NONE);
        x.sheet(2, 0, 0);
        due.is("reads(2) of no places", x.reads(2), NONE);
    }

    private static NineSail rows() {
        NineSail x = new NineSail();
        x.sheet(0, 0, 5);
        x.sheet(1, 0, 3);
        x.sheet(2, 1, 5);
        for (int i = 0; i < 5; i++) {
            x.mark(0, i, 10 + i);
            x.mark(1, i, 20 + i);
            x.mark(2, i, 30 + i);
        }
        return x;
    }

    private static void copy() {
        due.promise("promise 33");
        NineSail x = rows();
        due.is("copy(0, 1, 1, 0, 2)", x.copy(0, 1, 1, 0, 2), 2);
        row(x, 1, 11, 12, 22);
        row(x, 0, 10, 11, 12, 13, 14);
        due.is("copy(0, 0, 0, 1, 4)", x.copy(0, 0, 0, 1, 4), 4);
        row(x, 0, 10, 10, 11, 12, 13);
        due.is("copy(0, 1, 0, 0, 4)", x.copy(0, 1, 0, 0, 4), 4);
        row(x, 0, 10, 11, 12, 13, 13);
        due.is("copy(0, 5, 1, 3, 0): behind the last, none", x.copy(0, 5, 1, 3, 0), 0);
        due.is("copy(2, 0, 2, 2, 3)", x.copy(2, 0, 2, 2, 3), 3);
        row(x, 2, 30, 31, 30, 31, 32);
    }

    private static void copyRefused() {
        due.promise("promise 33");
        NineSail x = rows();
        int[][] calls = {
            {-1, 0, 0, 0, 1, BAD}, {4, 0, 0, 0, 1, BAD}, {0, 0, 4, 0, 1, BAD}, {0, 0, -1, 0, 1, BAD},
            {3, 0, 4, 0, 1, BAD}, {3, 0, 0, 0, 1, NOTHING}, {0, 0, 3, 0, 1, NOTHING}, {3, 9, 3, 9, -1, NOTHING},
            {0, 0, 2, 0, 1, KIND}, {2, 9, 0, 9, 9, KIND}, {0, 0, 2, 0, 0, KIND},
            {0, -1, 1, 0, 1, INDEX}, {0, 0, 1, -1, 1, INDEX}, {0, 0, 1, 0, -1, INDEX}, {0, 5, 1, 0, 1, INDEX},
            {0, 0, 1, 3, 1, INDEX}, {0, 0, 1, 0, 4, INDEX}, {0, 3, 1, 0, 3, INDEX}, {0, 6, 1, 0, 0, INDEX},
            {0, 0, 1, 4, 0, INDEX}, {0, Integer.MAX_VALUE, 1, 0, 1, INDEX}, {0, 0, 1, Integer.MAX_VALUE, 1, INDEX},
            {0, 1, 1, 1, Integer.MAX_VALUE, INDEX}, {0, Integer.MIN_VALUE, 1, 0, Integer.MIN_VALUE, INDEX},
        };
        for (int[] c : calls) {
            due.is("copy(" + c[0] + ", " + c[1] + ", " + c[2] + ", " + c[3] + ", " + c[4] + ")",
                x.copy(c[0], c[1], c[2], c[3], c[4]), c[5]);
        }
        row(x, 0, 10, 11, 12, 13, 14);
        row(x, 1, 20, 21, 22);
        row(x, 2, 30, 31, 32, 33, 34);
    }

    private static void copyNoNumbers() {
        due.promise("promise 33");
        NineSail x = rows();
        x.sheet(1, 1, 2);
        x.mark(2, 1, NONE);
        due.is("copy(2, 0, 1, 0, 2)", x.copy(2, 0, 1, 0, 2), 2);
        row(x, 1, 30, KIND);
        due.is("copy(2, 3, 2, 1, 1)", x.copy(2, 3, 2, 1, 1), 1);
        row(x, 2, 30, 33, 32, 33, 34);
    }

    private static void lay() {
        due.promise("promise 34");
        NineSail x = rows();
        x.boat(0, 1, 0);
        int[][] calls = {
            {-1, 0, 0, BAD}, {5, 0, 0, BAD}, {0, -1, 0, BAD}, {0, 4, 0, BAD}, {0, 1, 1, BAD}, {0, 1, -1, BAD},
            {0, 2, 4, BAD}, {0, 2, -1, BAD}, {0, 2, 3, NOTHING}, {5, 2, 3, BAD},
            {0, 1, 0, 0}, {0, 2, 3, NOTHING}, {0, 1, 9, BAD}, {0, 2, 0, 1}, {0, 3, -77, 2}, {0, 0, 99, 3}, {0, 0, -1, 0},
            {4, 3, Integer.MIN_VALUE, 0}, {4, 3, 0, 3}, {4, 1, 0, 3}, {4, 1, 0, 1},
        };
        for (int[] c : calls) {
            due.is("lay(" + c[0] + ", " + c[1] + ", " + c[2] + ")", x.lay(c[0], c[1], c[2]), c[3]);
        }
        x.lay(0, 3, 5);
        x.lay(0, 2, 3);
        due.is("a refused one changes nothing", x.rest(0, 9), 5);
        for (int slot = 0; slot < 5; slot++) {
            x.lay(slot, 3, slot);
        }
        for (int slot = 0; slot < 5; slot++) {
            due.is("each slot holds its own", x.rest(slot, 100), slot);
        }
    }

    private static void laidForGood() {
        due.promise("promise 34");
        NineSail x = rows();
        x.boat(1, 10, 0);
        x.lay(0, 1, 0);
        x.lay(1, 2, 0);
        x.set(0, 1, 20);
        x.turns(0, 2);
        x.mark(0, 0, 99);
        due.is("ask(0, 1): as it was", x.ask(0, 1), 18);
        due.is("item(1, 0): as it was", x.item(1, 0), 10);
        x.sheet(0, -1, 0);
        x.sheet(0, 1, 2);
        due.is("item(1, 4): a row of its own", x.item(1, 4), 14);
        NineSail y = new NineSail();
        y.keep();
        y.boat(3, 10, 0);
        y.lay(0, 1, 0);
        y.back();
        due.is("ask(0, 3): the boat itself is gone", y.ask(0, 3), 36);
    }

    private static void ask() {
        due.promise("promise 35");
        NineSail x = new NineSail();
        due.is("ask(0, 0)", x.ask(0, 0), NOTHING);
        due.is("ask(5, 0)", x.ask(5, 0), BAD);
        due.is("ask(-1, 0)", x.ask(-1, 0), BAD);
        due.is("ask(0, 6): bad stands first", x.ask(0, 6), BAD);
        due.is("ask(0, -1)", x.ask(0, -1), BAD);
        int[] above = {1, 1 | 2, 1 | 4, 1 | 2 | 8, 1 | 4 | 16, 1 | 32};
        int[] worth = {10, 18, 89, 36, 82, 4};
        for (int kind = 0; kind < 6; kind++) {
            x.boat(kind, 10, 0);
            x.lay(2, 1, kind);
            for (int as = 0; as < 6; as++) {
                int want = (above[kind] >> as & 1) == 1 ? worth[kind] : KIND;
                due.is("ask(2, " + as + ") of kind " + kind, x.ask(2, as), want);
            }
        }
        x.lay(2, 3, 5);
        due.is("ask(2, 0) of a number", x.ask(2, 0), KIND);
        x.sheet(0, 0, 1);
        x.lay(2, 2, 0);
        due.is("ask(2, 0) of a sheet", x.ask(2, 0), KIND);
        x.lay(2, 0, 0);
        due.is("ask(2, 0) of nothing", x.ask(2, 0), NOTHING);
    }

    private static void item() {
        due.promise("promise 36");
        NineSail x = rows();
        x.boat(0, 1, 0);
        due.is("item(5, 0)", x.item(5, 0), BAD);
        due.is("item(-1, 0)", x.item(-1, 0), BAD);
        due.is("item(0, 99)", x.item(0, 99), NOTHING);
        x.lay(0, 1, 0);
        due.is("item(0, 99) of a boat", x.item(0, 99), KIND);
        x.lay(0, 3, 0);
        due.is("item(0, 0) of a number", x.item(0, 0), KIND);
        x.mark(2, 1, NONE);
        x.lay(0, 2, 2);
        due.is("item(0, 0)", x.item(0, 0), 30);
        due.is("item(0, 1): no number", x.item(0, 1), KIND);
        due.is("item(0, 5)", x.item(0, 5), INDEX);
        due.is("item(0, -1)", x.item(0, -1), INDEX);
        due.is("item(0, MAX)", x.item(0, Integer.MAX_VALUE), INDEX);
    }

    private static void rest() {
        due.promise("promise 37");
        NineSail x = rows();
        x.boat(0, 1, 0);
        due.is("rest(5, 1)", x.rest(5, 1), BAD);
        due.is("rest(-1, 1)", x.rest(-1, 1), BAD);
        due.is("rest(5, 0): bad stands first", x.rest(5, 0), BAD);
        due.is("rest(0, 0): nothing stands first", x.rest(0, 0), NOTHING);
        x.lay(0, 1, 0);
        due.is("rest(0, 0) of a boat", x.rest(0, 0), KIND);
        x.lay(0, 2, 0);
        due.is("rest(0, 1) of a sheet", x.rest(0, 1), KIND);
        x.lay(0, 3, -17);
        due.is("rest(0, 5): / cuts towards 0", x.rest(0, 5), -2);
        due.is("rest(0, -5)", x.rest(0, -5), -2);
        due.is("rest(0, 0)", x.rest(0, 0), NineSail.NO);
        x.lay(0, 3, 17);
        due.is("rest(0, -5)", x.rest(0, -5), 2);
        x.lay(0, 3, Integer.MIN_VALUE);
        due.is("rest(0, -1)", x.rest(0, -1), 0);
        due.is("rest(0, MIN)", x.rest(0, Integer.MIN_VALUE), 0);
        due.is("rest(0, MAX)", x.rest(0, Integer.MAX_VALUE), -1);
    }
}
