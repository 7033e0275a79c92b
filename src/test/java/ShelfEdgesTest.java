/** The boundary cases of SHELVES: promises 1 to 8, what the Terms say of ROWS, the order of the REFUSALS. */
public final class ShelfEdgesTest extends Edges {
    private ShelfEdgesTest() {
    }

    public static void main(String[] args) {
        newObject1();
        row2();
        rowsOrder2();
        set3();
        lowestBits3();
        copy4();
        copyRefused4();
        copyOrder4();
        element5();
        show6();
        holds7();
        says8();
        saysBounds8();
        saysRefused8();
        Checks.end("ShelfEdgesTest");
    }

    private static void newObject1() {
        tells("1: no TABLES", Edges::fresh, 0, x -> x.status(0));
        tells("1: no WAITERS", Edges::fresh, 0, x -> x.status(1));
        tells("1: no TABLE to be told of", Edges::fresh, 0, x -> x.status(2));
        for (int what = 0; what < 9; what++) {
            int asked = what;
            tells("1: at first, status " + what, Edges::fresh, what == 7 ? 1 : 0, x -> x.status(asked));
        }
        for (int r = 11; r < 18; r++) {
            int asked = r;
            tells("1: no REFUSALS at first", Edges::fresh, 0, x -> x.status(asked));
        }
        int[] settings = {0, 0, 10, 15, 20};
        for (int what = 0; what < 5; what++) {
            Checks.same("1: SHARING 0, ADDED 0, NUMBERS 10, 15, 20 at first", fresh().ask(what, 1), settings[what]);
        }
        for (int s = 0; s < 8; s++) {
            int shelf = s;
            tells("Terms: SHELVES 0 to 7 hold NOTHING at first", Edges::fresh, NONE, x -> x.holds(shelf));
        }
        tells("1: no FAULT yet", Edges::fresh, NONE, TablesAndTips::fault);
        tells("1: no TRACE yet", Edges::fresh, NONE, x -> x.trace(0));
        refused("1: no IMAGE yet", Edges::fresh, -6, TablesAndTips::restore);
    }

    private static void row2() {
        for (int s = 0; s < 8; s++) {
            int shelf = s;
            TablesAndTips x = busy();
            does("2: SHELVES 0 to 7", x, 1, y -> y.row(shelf, 1, 3));
            Checks.same("2: the SHELF holds the new ROW, whatever it held", x.holds(s), 101);
            for (int i = 0; i < 8; i++) {
                Checks.same("Terms: 0 at first, whatever there was", x.element(s, i), 0);
            }
        }
        for (int s : NOWHERE) {
            refused("2: -1 no such SHELF", Edges::busy, -1, x -> x.row(s, 0, 1));
        }
        for (int sort = 0; sort < 4; sort++) {
            int wanted = sort;
            TablesAndTips x = fresh();
            does("2: SORTS 0 to 3", x, 1, y -> y.row(0, wanted, 1));
            Checks.same("2: the SORT", x.holds(0), 100 + sort);
        }
        for (int sort : new int[] {LEAST, -1, 4, MOST}) {
            refused("2: -6 SORT", Edges::busy, -6, x -> x.row(0, sort, 1));
        }
        sizesOfRow2();
    }

    private static void sizesOfRow2() {
        for (int n : new int[] {0, 1, 159, 160}) {
            TablesAndTips x = fresh();
            does("2: 0 to 160 elements", x, 1, y -> y.row(0, 3, n));
            Checks.same("2: the last element is there", x.set(0, n - 1, 5), n == 0 ? -5 : 1);
            Checks.same("2: the one after it is not", x.set(0, n, 5), -5);
        }
        TablesAndTips x = fresh();
        x.row(0, 3, 160);
        for (int i = 0; i < 160; i++) {
            x.set(0, i, -1);
        }
        x.row(0, 3, 160);
        for (int i = 0; i < 160; i++) {
            Checks.same("Terms: each element of a new ROW is 0", x.element(0, i), 0);
        }
        for (int n : new int[] {LEAST, -160, -1}) {
            refused("2: -4 a size below 0", Edges::busy, -4, y -> y.row(0, 0, n));
        }
        for (int n : new int[] {161, 162, MOST}) {
            refused("2: -7 n above 160", Edges::busy, -7, y -> y.row(0, 0, n));
        }
    }

    private static void rowsOrder2() {
        refused("2: -1 ahead of -4", Edges::busy, -1, x -> x.row(8, 0, -1));
        refused("2: -1 ahead of -6", Edges::busy, -1, x -> x.row(-1, 4, 1));
        refused("2: -1 ahead of -7", Edges::busy, -1, x -> x.row(8, 0, 161));
        refused("2: -4 ahead of -6", Edges::busy, -4, x -> x.row(0, 4, -1));
        refused("2: -6 ahead of -7", Edges::busy, -6, x -> x.row(0, -1, 161));
    }

    private static void set3() {
        TablesAndTips x = busy();
        does("3: the first element", x, 1, y -> y.set(0, 0, 9));
        does("3: the last element", x, 1, y -> y.set(0, 3, 8));
        Checks.same("3: it becomes v: the first", x.element(0, 0), 9);
        Checks.same("3: no other", x.element(0, 1), 2);
        Checks.same("3: it becomes v: the last", x.element(0, 3), 8);
        for (int i : new int[] {LEAST, -1, 4, 5, 160, MOST}) {
            refused("3: -5 an element that isn't there", Edges::busy, -5, y -> y.set(0, i, 9));
        }
        refused("3: -5 in an empty ROW", () -> after(busy(), y -> y.row(7, 3, 0)), -5, y -> y.set(7, 0, 9));
        for (int s : NOWHERE) {
            refused("3: -1 no such SHELF", Edges::busy, -1, y -> y.set(s, 0, 9));
        }
        refused("3: -2 a SHELF that holds GUESTS", Edges::busy, -2, y -> y.set(4, 0, 9));
        refused("3: -3 a SHELF that holds NOTHING", Edges::busy, -3, y -> y.set(7, 0, 9));
        refused("3: -1 ahead of -5", Edges::busy, -1, y -> y.set(8, -1, 9));
        refused("3: -2 ahead of -5", Edges::busy, -2, y -> y.set(4, -1, 9));
        refused("3: -3 ahead of -5", Edges::busy, -3, y -> y.set(7, -1, 9));
    }

    private static void keeps(int sort, long v, long due) {
        TablesAndTips x = fresh();
        x.row(0, sort, 1);
        does("3: of SORT " + sort + " what is put in keeps its lowest bits: " + v, x, 1, y -> y.set(0, 0, v));
        Checks.same("3: lowest bits of SORT " + sort + " of " + v, x.element(0, 0), due);
    }

    private static void lowestBits3() {
        keeps(0, 127, 127);
        keeps(0, 128, -128);
        keeps(0, -128, -128);
        keeps(0, -129, 127);
        keeps(0, 255, -1);
        keeps(0, 256, 0);
        keeps(1, 32767, 32767);
        keeps(1, 32768, -32768);
        keeps(1, -32768, -32768);
        keeps(1, -32769, 32767);
        keeps(1, 65535, -1);
        keeps(1, 65536, 0);
        keeps(2, MOST, MOST);
        keeps(2, MOST + 1L, LEAST);
        keeps(2, LEAST, LEAST);
        keeps(2, LEAST - 1L, MOST);
        keeps(2, (1L << 32) - 1, -1);
        keeps(2, 1L << 32, 0);
        keeps(3, Long.MAX_VALUE, Long.MAX_VALUE);
        keeps(3, Long.MIN_VALUE, Long.MIN_VALUE);
        keeps(3, 1L << 32, 1L << 32);
        for (int sort = 0; sort < 4; sort++) {
            keeps(sort, 0, 0);
            keeps(sort, -1, -1);
            keeps(sort, Long.MIN_VALUE, sort == 3 ? Long.MIN_VALUE : 0);
            keeps(sort, Long.MAX_VALUE, sort == 3 ? Long.MAX_VALUE : -1);
        }
    }

    /** SHELVES 0 and 1 hold five and three ints, 2 and 3 hold 160 longs. */
    private static TablesAndTips copier() {
        TablesAndTips x = busy();
        row(x, 0, 2, 1, 2, 3, 4, 5);
        row(x, 1, 2, 6, 7, 8);
        x.row(2, 3, 160);
        x.row(3, 3, 160);
        x.set(2, 0, Long.MIN_VALUE);
        x.set(2, 159, Long.MAX_VALUE);
        return x;
    }

    private static void copied(String sentence, int p, int q, int i, int j, int n, int... due) {
        TablesAndTips x = copier();
        does("4: " + sentence, x, 1, y -> y.copy(p, q, i, j, n));
        for (int k = 0; k < due.length; k++) {
            Checks.same("4: " + sentence + " [element " + k + "]", x.element(q, k), due[k]);
        }
        for (int k = 0; k < 5 && p != q; k++) {
            Checks.same("4: " + sentence + " [the ROW in p stays]", x.element(p, k), copier().element(p, k));
        }
    }

    private static void copy4() {
        copied("all that there is room for", 0, 1, 0, 0, 3, 1, 2, 3);
        copied("up to both ends", 0, 1, 3, 1, 2, 6, 4, 5);
        copied("the last one to the last place", 0, 1, 4, 2, 1, 6, 7, 5);
        copied("none at the first places", 0, 1, 0, 0, 0, 6, 7, 8);
        copied("none at both ends", 0, 1, 5, 3, 0, 6, 7, 8);
        copied("as they were ahead, upwards", 0, 0, 0, 1, 4, 1, 1, 2, 3, 4);
        copied("as they were ahead, downwards", 0, 0, 1, 0, 4, 2, 3, 4, 5, 5);
        copied("as they were ahead, by two", 0, 0, 0, 2, 3, 1, 2, 1, 2, 3);
        copied("onto themselves", 0, 0, 0, 0, 5, 1, 2, 3, 4, 5);
        TablesAndTips x = copier();
        does("4: 160 of them", x, 1, y -> y.copy(2, 3, 0, 0, 160));
        Checks.same("4: the first of 160", x.element(3, 0), Long.MIN_VALUE);
        Checks.same("4: the last of 160", x.element(3, 159), Long.MAX_VALUE);
        TablesAndTips empty = after(copier(), y -> y.row(1, 2, 0));
        does("4: none of an empty ROW", empty, 1, y -> y.copy(1, 0, 0, 5, 0));
    }

    private static void copyRefused4() {
        for (int s : NOWHERE) {
            refused("4: -1 no such SHELF p", ShelfEdgesTest::copier, -1, x -> x.copy(s, 1, 0, 0, 1));
            refused("4: -1 no such SHELF q", ShelfEdgesTest::copier, -1, x -> x.copy(0, s, 0, 0, 1));
        }
        refused("4: -2 GUESTS in p", ShelfEdgesTest::copier, -2, x -> x.copy(4, 1, 0, 0, 1));
        refused("4: -2 GUESTS in q", ShelfEdgesTest::copier, -2, x -> x.copy(0, 4, 0, 0, 1));
        refused("4: -2 GUESTS in both", ShelfEdgesTest::copier, -2, x -> x.copy(4, 5, 0, 0, 1));
        refused("4: -2 two SORTS", ShelfEdgesTest::copier, -2, x -> x.copy(0, 2, 0, 0, 1));
        refused("4: -2 two SORTS, even of none", ShelfEdgesTest::copier, -2, x -> x.copy(2, 0, 0, 0, 0));
        refused("4: -3 NOTHING in p", ShelfEdgesTest::copier, -3, x -> x.copy(7, 1, 0, 0, 1));
        refused("4: -3 NOTHING in q", ShelfEdgesTest::copier, -3, x -> x.copy(0, 7, 0, 0, 1));
        refused("4: -3 NOTHING in either, even of none", ShelfEdgesTest::copier, -3, x -> x.copy(7, 7, 0, 0, 0));
        for (int n : new int[] {LEAST, -1}) {
            refused("4: -4 n", ShelfEdgesTest::copier, -4, x -> x.copy(0, 1, 2, 2, n));
        }
        for (int[] c : new int[][] {{-1, 0, 0}, {-1, 0, 1}, {LEAST, 0, 1}, {MOST, 0, 1}, {6, 0, 0}, {5, 0, 1},
            {4, 0, 2}, {3, 0, 3}, {MOST, 0, MOST}, {1, 0, MOST}}) {
            refused("4: -5 i below 0, or an end that isn't there", ShelfEdgesTest::copier, -5,
                x -> x.copy(0, 1, c[0], c[1], c[2]));
        }
        for (int[] c : new int[][] {{0, -1, 0}, {0, -1, 1}, {0, LEAST, 1}, {0, MOST, 1}, {0, 4, 0}, {0, 3, 1},
            {0, 2, 2}, {0, 1, 3}, {0, 0, 4}, {0, MOST, MOST}}) {
            refused("4: -5 j below 0, or an end that isn't there", ShelfEdgesTest::copier, -5,
                x -> x.copy(0, 1, c[0], c[1], c[2]));
        }
        refused("4: -5 of 160, 161", ShelfEdgesTest::copier, -5, x -> x.copy(2, 3, 0, 0, 161));
    }

    private static void copyOrder4() {
        refused("4: -1 ahead of -2", ShelfEdgesTest::copier, -1, x -> x.copy(4, 8, 0, 0, 1));
        refused("4: -1 ahead of -3", ShelfEdgesTest::copier, -1, x -> x.copy(-1, 7, 0, 0, 1));
        refused("4: -1 ahead of -4", ShelfEdgesTest::copier, -1, x -> x.copy(0, 8, 0, 0, -1));
        refused("4: -1 ahead of -5", ShelfEdgesTest::copier, -1, x -> x.copy(-1, 0, -1, 0, 1));
        refused("4: -2 ahead of -3 in p", ShelfEdgesTest::copier, -2, x -> x.copy(7, 4, 0, 0, 1));
        refused("4: -2 ahead of -3 in q", ShelfEdgesTest::copier, -2, x -> x.copy(4, 7, 0, 0, 1));
        refused("4: -2 ahead of -4", ShelfEdgesTest::copier, -2, x -> x.copy(0, 2, 0, 0, -1));
        refused("4: -2 ahead of -5", ShelfEdgesTest::copier, -2, x -> x.copy(0, 2, 9, 0, 1));
        refused("4: -3 ahead of -4", ShelfEdgesTest::copier, -3, x -> x.copy(7, 0, 0, 0, -1));
        refused("4: -3 ahead of -5", ShelfEdgesTest::copier, -3, x -> x.copy(0, 7, -1, 0, 1));
        refused("4: -4 ahead of -5", ShelfEdgesTest::copier, -4, x -> x.copy(0, 1, -1, 9, -1));
    }

    private static void element5() {
        tells("5: the first element", Edges::busy, 1, x -> x.element(0, 0));
        tells("5: the last element", Edges::busy, -4, x -> x.element(0, 3));
        tells("5: all bits of a long", Edges::busy, 1L << 32, x -> x.element(3, 2));
        for (int i : new int[] {LEAST, -1, 4, 5, 160, MOST}) {
            tells("5: 0 if there is none, nothing is refused", Edges::busy, 0, x -> x.element(0, i));
        }
        for (int s : NOWHERE) {
            tells("5: 0 of no such SHELF, nothing is refused", Edges::busy, 0, x -> x.element(s, 0));
        }
        tells("5: 0 of GUESTS", Edges::busy, 0, x -> x.element(4, 0));
        tells("5: 0 of NOTHING", Edges::busy, 0, x -> x.element(7, 0));
        tells("5: 0 of an empty ROW", () -> after(busy(), x -> x.row(0, 0, 0)), 0, x -> x.element(0, 0));
        tells("5: 0 beyond a ROW that is shorter now", () -> after(busy(), x -> x.row(0, 0, 1)), 0,
            x -> x.element(0, 1));
        tells("5: 0 of what was a ROW", () -> after(busy(), x -> x.show(0, 1)), 0, x -> x.element(0, 0));
    }

    private static void show6() {
        for (int s = 0; s < 8; s++) {
            int shelf = s;
            TablesAndTips x = busy();
            does("6: 1, whatever the SHELF held", x, 1, y -> y.show(shelf, 4));
            Checks.same("6: it holds the GUESTS", x.holds(s), 4);
            does("6: NOTHING (table NONE): 0", x, 0, y -> y.show(shelf, NONE));
            Checks.same("6: it holds NOTHING", x.holds(s), NONE);
            does("6: 0 of what holds NOTHING too", x, 0, y -> y.show(shelf, NONE));
        }
        for (int t = 0; t < 5; t++) {
            int table = t;
            TablesAndTips x = busy();
            does("6: each table", x, 1, y -> y.show(0, table));
            Checks.same("6: the table", x.holds(0), t);
        }
        does("6: table 7 of eight", full(), 1, x -> x.show(0, 7));
        for (int table : new int[] {LEAST, -2, 5, 6, 8, 100, MOST}) {
            refused("6: -1 no such table", Edges::busy, -1, x -> x.show(0, table));
        }
        refused("6: -1 no such table of eight", Edges::full, -1, x -> x.show(0, 8));
        refused("6: -1 no table at all", Edges::fresh, -1, x -> x.show(0, 0));
        does("6: NOTHING where there is no table", fresh(), 0, x -> x.show(0, NONE));
        for (int s : NOWHERE) {
            refused("6: -1 no such SHELF", Edges::busy, -1, x -> x.show(s, 0));
            refused("6: -1 no such SHELF for NOTHING", Edges::busy, -1, x -> x.show(s, NONE));
        }
    }

    private static void holds7() {
        int[] due = {100, 101, 102, 103, 1, 4, 100, NONE};
        for (int s = 0; s < 8; s++) {
            int shelf = s;
            tells("7: a ROW, GUESTS, NOTHING", Edges::busy, due[s], x -> x.holds(shelf));
            tells("7: the number of a table", Edges::full, s, x -> x.holds(shelf));
        }
        for (int s : NOWHERE) {
            tells("7: NONE of no such SHELF", Edges::busy, NONE, x -> x.holds(s));
        }
        tells("7: an empty ROW is a ROW", () -> after(fresh(), x -> x.row(0, 3, 0)), 103, x -> x.holds(0));
    }

    private static void says8() {
        int[] above = {NONE, 0, 1, 1, 0, 1, 3};
        for (int kind = 0; kind < 7; kind++) {
            int of = kind;
            Made made = () -> after(ofOne(2, of, 57, 3, 20), x -> x.show(0, 0));
            int[] due = {20, 11, 7, 3, 15, 0, 3};
            for (int wanted = 0; wanted < 7; wanted++) {
                int as = wanted;
                boolean isUnder = false;
                for (int k = kind; k != NONE; k = above[k]) {
                    isUnder |= k == wanted;
                }
                if (isUnder) {
                    tells("8: GUESTS of " + kind + ", or under it, taken for " + wanted, made, due[wanted],
                        x -> x.says(0, as));
                } else {
                    refused("8: -2 GUESTS of " + kind + " for " + wanted, made, -2, x -> x.says(0, as));
                }
            }
        }
    }

    private static void said(String sentence, TablesAndTips x, int kind, int due) {
        x.show(0, x.status(0) - 1);
        does("8: " + sentence, x, due, y -> y.says(0, kind));
    }

    private static void saysBounds8() {
        said("GIFT the least a", ofOne(0, 0, 1, 1, 0), 0, 0);
        said("GIFT the greatest a", ofOne(0, 6, 1, 1, 99), 0, 99);
        said("CUSTOM is cut", ofOne(0, 1, 99, 1, 1), 1, 0);
        said("CUSTOM that need not be cut", ofOne(0, 1, 100, 1, 1), 1, 1);
        said("CUSTOM goes by BILL and a of any", ofOne(0, 6, 999, 1, 99), 1, 989);
        said("CUSTOM of SHOWN", after(ofOne(0, 0, 1, 1, 50), x -> x.table(5, 10, 1, 10, 0)), 1, 1);
        said("ROUNDED BILL modulo 10, of 9", ofOne(0, 2, 9, 1, 0), 2, 9);
        said("ROUNDED BILL modulo 10, of 10", ofOne(0, 2, 10, 1, 0), 2, 0);
        said("ROUNDED BILL modulo 10, of 999", ofOne(0, 2, 999, 1, 9), 2, 9);
        said("SERVED the least PARTY", ofOne(0, 3, 9, 1, 0), 3, 1);
        said("SERVED the greatest PARTY", ofOne(0, 6, 9, 9, 0), 3, 9);
        said("NUDGED the middle one by size", after(ofOne(0, 4, 9, 1, 0), x -> x.ask(3, 99)), 4, 20);
        said("SHOWN 0: none", ofOne(0, 5, 999, 1, 99), 5, 0);
        said("SHOWN 0: the table ahead gives none", after(ofOne(0, 0, 1, 1, 0), x -> x.table(5, 9, 1, 9, 0)), 5, 0);
        said("SHOWN what the table ahead GIVES", after(ofOne(0, 0, 1, 1, 7), x -> x.table(5, 9, 1, 9, 0)), 5, 7);
        TablesAndTips added = ofOne(0, 0, 100, 1, 7);
        added.table(5, 9, 1, 9, 0);
        added.ask(1, 30);
        said("SHOWN what the table ahead GIVES, ADDED and all", added, 5, 30);
        for (int skill = 0; skill < 7; skill++) {
            said("GRUDGED by how much SERVICE is below 5 (0 at least)", ofOne(skill, 6, 9, 1, 9), 6,
                skill < 5 ? 5 - skill : 0);
        }
        said("GRUDGED by EFFORT too", after(ofOne(1, 6, 9, 1, 9), x -> x.becomes(0, 1, 3)), 6, 1);
        said("GRUDGED 0 by SERVICE 9", after(ofOne(6, 6, 9, 1, 9), x -> x.becomes(0, 1, 3)), 6, 0);
    }

    private static void saysRefused8() {
        for (int s : NOWHERE) {
            refused("8: -1 SHELF", Edges::busy, -1, x -> x.says(s, 0));
        }
        for (int kind : new int[] {LEAST, -1, 7, 8, MOST}) {
            refused("8: -1 KIND", Edges::busy, -1, x -> x.says(4, kind));
            refused("8: -1 KIND ahead of -2", Edges::busy, -1, x -> x.says(0, kind));
            refused("8: -1 KIND ahead of -3", Edges::busy, -1, x -> x.says(7, kind));
        }
        for (int s = 0; s < 4; s++) {
            int shelf = s;
            refused("8: -2 a SHELF that holds a ROW", Edges::busy, -2, x -> x.says(shelf, 0));
        }
        refused("8: -3 a SHELF that holds NOTHING", Edges::busy, -3, x -> x.says(7, 0));
        refused("8: -3 a SHELF that holds NOTHING, of any KIND", Edges::busy, -3, x -> x.says(7, 6));
    }
}
