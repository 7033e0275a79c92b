/** For each promise of the document what it asks, reckoned by hand: ordinary calls, its edges, wrong calls. */
public final class PromiseTest {
    private static final int NONE = TablesAndTips.NONE;
    private static final int FAR = -1000000;

    private PromiseTest() {
    }

    private static void same(String what, long got, long due) {
        Checks.same(what, got, due);
    }

    public static void main(String[] args) {
        newObject1();
        row2();
        set3();
        copy4();
        element5();
        show6holds7();
        says8();
        waiter9();
        table10();
        tables11();
        serves12();
        becomes13();
        ask14();
        tableOf15waiterOf16();
        house17();
        fault18();
        faultsOfWordsAndRoom();
        would19();
        gives20all21();
        share22();
        gain23();
        reply24();
        rest25();
        rests26();
        best27();
        points28();
        leavers29();
        most30();
        even31();
        turns32luck33();
        worth34();
        raise35();
        judge36told37();
        evening38();
        guests39seed40();
        act41trace42();
        image43restore44();
        status45();
        Checks.end("PromiseTest");
    }

    // ---- helpers ----

    /** Puts a text into a SHELF, as a ROW of bytes. */
    private static void text(TablesAndTips x, int s, String letters) {
        same("row for a text", x.row(s, 0, letters.length()), 1);
        for (int i = 0; i < letters.length(); i++) {
            x.set(s, i, letters.charAt(i));
        }
    }

    private static void ints(TablesAndTips x, int s, int... elements) {
        same("row of ints", x.row(s, 2, elements.length), 1);
        for (int i = 0; i < elements.length; i++) {
            x.set(s, i, elements[i]);
        }
    }

    /** Reads a text on an object and looks at the answer and the FAULT. */
    private static void reads(TablesAndTips x, String letters, int items, int fault) {
        text(x, 7, letters);
        same("house of '" + letters + "'", x.house(7), items);
        same("fault of '" + letters + "'", x.fault(), fault);
    }

    private static void faulty(String letters, int fault) {
        reads(new TablesAndTips(), letters, -6, fault);
    }

    private static TablesAndTips withWaiters(int n) {
        TablesAndTips x = new TablesAndTips();
        for (int w = 0; w < n; w++) {
            same("waiter", x.waiter(w, 0, 0), w);
        }
        return x;
    }

    private static TablesAndTips full() {
        TablesAndTips x = withWaiters(4);
        for (int t = 0; t < 8; t++) {
            same("table", x.table(0, 1, 1, t, t % 4), t);
        }
        return x;
    }

    private static void refusals(TablesAndTips x, int... due) {
        for (int i = 0; i < due.length; i++) {
            same("refusals " + (-1 - i), x.status(11 + i), due[i]);
        }
    }

    // ---- promises ----

    private static void newObject1() {
        TablesAndTips x = new TablesAndTips();
        same("no tables", x.status(0), 0);
        same("no waiters", x.status(1), 0);
        same("nothing given", x.all(), 0);
        same("seed at first", x.status(7), 1);
        same("sharing at first", x.ask(0, 1), 0);
        same("added at first", x.ask(1, 1), 0);
        same("number 0 at first", x.ask(2, 1), 10);
        same("number 1 at first", x.ask(3, 1), 15);
        same("number 2 at first", x.ask(4, 1), 20);
        for (int s = 0; s < 8; s++) {
            same("shelf at first", x.holds(s), NONE);
        }
        same("table of none", x.tableOf(0, 0), -5);
        same("waiter of none", x.waiterOf(0, 0), -5);
        same("jar at first", x.status(6), 0);
        same("NONE", NONE, -1);
    }

    private static void row2() {
        TablesAndTips x = new TablesAndTips();
        for (int sort = 0; sort < 4; sort++) {
            same("row of a sort", x.row(sort, sort, 160), 1);
            same("holds the sort", x.holds(sort), 100 + sort);
            same("last element", x.set(sort, 159, 7), 1);
            same("no element 160", x.set(sort, 160, 7), -5);
        }
        same("an empty row", x.row(4, 0, 0), 1);
        same("no element 0", x.set(4, 0, 1), -5);
        same("a new row for an old one", x.row(0, 0, 160), 1);
        same("its elements are 0", x.element(0, 159), 0);
        x.set(0, 0, 4);
        x.row(0, 0, 160);
        same("the first too", x.element(0, 0), 0);
        x.set(0, 3, 5);
        same("shelf -1 ahead of all", x.row(-1, 9, -1), -1);
        same("shelf 8", x.row(8, 0, 1), -1);
        same("n below 0 ahead of sort", x.row(0, 9, -1), -4);
        same("n below 0", x.row(0, 0, Integer.MIN_VALUE), -4);
        same("sort 4 ahead of room", x.row(0, 4, 161), -6);
        same("sort -1", x.row(0, -1, 1), -6);
        same("161", x.row(0, 0, 161), -7);
        same("very long", x.row(0, 0, Integer.MAX_VALUE), -7);
        same("a refused row leaves the old", x.element(0, 3), 5);
        refusals(x, 2, 0, 0, 2, 5, 2, 2);
    }

    private static void set3() {
        TablesAndTips x = withWaiters(1);
        x.table(0, 1, 1, 1, 0);
        long[] put = {0x1_8000_80FFL, 0x1_8000_8080L, -1, Long.MIN_VALUE, 127, 128};
        long[][] due = {
            {-1, -128, -1, 0, 127, -128},
            {(short) 0x80FF, (short) 0x8080, -1, 0, 127, 128},
            {(int) 0x800080FFL, (int) 0x80008080L, -1, 0, 127, 128},
            {0x1_8000_80FFL, 0x1_8000_8080L, -1, Long.MIN_VALUE, 127, 128},
        };
        for (int sort = 0; sort < 4; sort++) {
            x.row(0, sort, put.length);
            for (int i = 0; i < put.length; i++) {
                same("set", x.set(0, i, put[i]), 1);
            }
            for (int i = 0; i < put.length; i++) {
                same("lowest bits of sort " + sort, x.element(0, i), due[sort][i]);
            }
        }
        x.show(1, 0);
        same("no shelf -1", x.set(-1, 0, 1), -1);
        same("no shelf 8", x.set(8, 0, 1), -1);
        same("guests", x.set(1, 0, 1), -2);
        same("nothing", x.set(2, 0, 1), -3);
        same("element -1", x.set(0, -1, 1), -5);
        same("element n", x.set(0, put.length, 1), -5);
        refusals(x, 2, 1, 1, 0, 2, 0, 0);
    }

    private static void copy4() {
        TablesAndTips x = withWaiters(1);
        x.table(0, 1, 1, 1, 0);
        ints(x, 0, 1, 2, 3, 4, 5);
        same("copy up onto itself", x.copy(0, 0, 0, 1, 4), 1);
        long[] up = {1, 1, 2, 3, 4};
        for (int i = 0; i < 5; i++) {
            same("as they were ahead, up", x.element(0, i), up[i]);
        }
        same("copy down onto itself", x.copy(0, 0, 1, 0, 4), 1);
        long[] down = {1, 2, 3, 4, 4};
        for (int i = 0; i < 5; i++) {
            same("as they were ahead, down", x.element(0, i), down[i]);
        }
        x.row(1, 2, 3);
        same("copy to another", x.copy(0, 1, 2, 1, 2), 1);
        same("its 0", x.element(1, 0), 0);
        same("its 1", x.element(1, 1), 3);
        same("its 2", x.element(1, 2), 4);
        same("the first stays", x.element(0, 2), 3);
        same("none at the ends", x.copy(0, 1, 5, 3, 0), 1);
        same("none beyond the end", x.copy(0, 1, 6, 3, 0), -5);
        same("none beyond the other's end", x.copy(0, 1, 5, 4, 0), -5);
        same("i below 0", x.copy(0, 1, -1, 0, 1), -5);
        same("j below 0", x.copy(0, 1, 0, -1, 1), -5);
        same("past p", x.copy(0, 1, 4, 0, 2), -5);
        same("past q", x.copy(0, 1, 0, 2, 2), -5);
        same("far past", x.copy(0, 1, Integer.MAX_VALUE, 0, Integer.MAX_VALUE), -5);
        same("n below 0 ahead of i", x.copy(0, 1, -1, -1, -1), -4);
        x.row(2, 3, 5);
        x.show(3, 0);
        same("two sorts ahead of n", x.copy(0, 2, 0, 0, -1), -2);
        same("guests in p", x.copy(3, 0, 0, 0, 1), -2);
        same("guests in q ahead of nothing", x.copy(4, 3, 0, 0, 1), -2);
        same("nothing in p", x.copy(4, 0, 0, 0, -1), -3);
        same("nothing in q", x.copy(0, 4, 0, 0, 1), -3);
        same("nothing in both", x.copy(4, 5, 0, 0, 1), -3);
        same("no shelf p ahead of guests", x.copy(8, 3, 0, 0, 1), -1);
        same("no shelf q", x.copy(3, -1, 0, 0, 1), -1);
        refusals(x, 2, 3, 3, 1, 7, 0, 0);
    }

    private static void element5() {
        TablesAndTips x = withWaiters(1);
        x.table(0, 1, 1, 1, 0);
        x.row(0, 3, 2);
        x.set(0, 1, Long.MIN_VALUE + 5);
        same("a long", x.element(0, 1), Long.MIN_VALUE + 5);
        same("not set", x.element(0, 0), 0);
        same("below", x.element(0, -1), 0);
        same("beyond", x.element(0, 2), 0);
        same("nothing", x.element(1, 0), 0);
        same("no shelf", x.element(-1, 0), 0);
        same("no shelf 8", x.element(8, 0), 0);
        x.show(0, 0);
        same("guests", x.element(0, 1), 0);
        x.row(0, 3, 2);
        same("a new row", x.element(0, 1), 0);
        refusals(x, 0, 0, 0, 0, 0, 0, 0);
    }

    private static void show6holds7() {
        TablesAndTips x = full();
        same("show", x.show(0, 7), 1);
        same("holds the table", x.holds(0), 7);
        same("show 0", x.show(0, 0), 1);
        same("holds table 0", x.holds(0), 0);
        same("show none", x.show(0, NONE), 0);
        same("holds nothing", x.holds(0), NONE);
        x.row(1, 1, 3);
        same("guests for a row", x.show(1, 2), 1);
        same("holds them", x.holds(1), 2);
        x.row(1, 1, 3);
        same("a row for guests", x.holds(1), 101);
        same("no table 8", x.show(1, 8), -1);
        same("no table -2", x.show(1, -2), -1);
        same("no shelf", x.show(8, 0), -1);
        same("no shelf for none", x.show(-1, NONE), -1);
        same("refused, it holds the row", x.holds(1), 101);
        same("nothing for a row", x.show(1, NONE), 0);
        same("no row any more", x.set(1, 0, 1), -3);
        same("holds of no shelf", x.holds(-1), NONE);
        same("holds of shelf 8", x.holds(8), NONE);
        refusals(x, 4, 0, 1, 0, 0, 0, 0);
    }

    private static void says8() {
        TablesAndTips x = new TablesAndTips();
        x.waiter(1, 0, 0);
        int[][] tables = {{0, 57, 3, 20}, {1, 57, 3, 20}, {2, 57, 4, 20}, {3, 57, 5, 20}, {4, 57, 6, 20},
            {5, 58, 7, 20}, {6, 59, 8, 20}};
        for (int[] t : tables) {
            x.table(t[0], t[1], t[2], t[3], 0);
        }
        int[][] due = {
            {20, -2, -2, -2, -2, -2, -2},
            {20, 11, -2, -2, -2, -2, -2},
            {20, 11, 7, -2, -2, -2, -2},
            {20, 11, -2, 5, -2, -2, -2},
            {20, -2, -2, -2, 15, -2, -2},
            {20, 11, -2, -2, -2, 8, -2},
            {20, 11, -2, 8, -2, -2, 4},
        };
        for (int kind = 0; kind < 7; kind++) {
            x.show(kind, kind);
            for (int as = 0; as < 7; as++) {
                same("guests of " + kind + " for " + as, x.says(kind, as), due[kind][as]);
            }
        }
        x.becomes(0, 0, 6);
        same("service above 5", x.says(6, 6), 0);
        x.becomes(0, 0, 5);
        same("service 5", x.says(6, 6), 0);
        x.ask(1, 30);
        same("what the table ahead gives, added and all", x.says(5, 5), 17);
        x.ask(3, 99);
        same("the middle of 10 99 20", x.says(4, 4), 20);
        same("no kind 7", x.says(0, 7), -1);
        same("no kind -1", x.says(0, -1), -1);
        same("no shelf", x.says(8, 0), -1);
        same("nothing", x.says(7, 0), -3);
        x.row(7, 0, 1);
        same("a row", x.says(7, 0), -2);
        same("no kind ahead of a row", x.says(7, 9), -1);
        TablesAndTips y = withWaiters(1);
        y.table(5, 50, 1, 10, 0);
        y.show(0, 0);
        same("shown without a table ahead", y.says(0, 5), 0);
    }

    private static void waiter9() {
        TablesAndTips x = new TablesAndTips();
        same("skill 7", x.waiter(7, 0, 0), -6);
        same("skill -1", x.waiter(-1, 0, 0), -6);
        same("pains 100", x.waiter(0, 100, 0), -6);
        same("pains -1", x.waiter(0, -1, 0), -6);
        same("want 1000", x.waiter(0, 0, 1000), -6);
        same("want -1", x.waiter(0, 0, -1), -6);
        same("none came", x.status(1), 0);
        same("waiter 0", x.waiter(6, 99, 999), 0);
        int[] due = {6, 0, 99, 1, 999, 0, 0};
        for (int what = 0; what < 7; what++) {
            same("of the new waiter", x.waiterOf(0, what), due[what]);
        }
        same("waiter 1", x.waiter(0, 0, 0), 1);
        same("waiter 2", x.waiter(0, 0, 0), 2);
        same("waiter 3", x.waiter(0, 0, 0), 3);
        same("no room", x.waiter(0, 0, 0), -7);
        same("wrong ahead of room", x.waiter(7, 0, 0), -6);
        refusals(x, 0, 0, 0, 0, 0, 7, 1);
    }

    private static void table10() {
        TablesAndTips x = new TablesAndTips();
        same("a table can't be without a waiter", x.table(0, 1, 1, 0, 0), -1);
        x.waiter(2, 0, 0);
        x.waiter(3, 0, 0);
        same("kind 7 ahead of bill", x.table(7, 0, 0, 0, 0), -1);
        same("kind -1", x.table(-1, 1, 1, 0, 0), -1);
        same("waiter 2 ahead of bill", x.table(0, 0, 1, 0, 2), -1);
        same("waiter -1", x.table(0, 1, 1, 0, -1), -1);
        same("bill 0", x.table(0, 0, 1, 0, 0), -6);
        same("bill 1000", x.table(0, 1000, 1, 0, 0), -6);
        same("party 0", x.table(0, 1, 0, 0, 0), -6);
        same("party 10", x.table(0, 1, 10, 0, 0), -6);
        same("a -1", x.table(0, 1, 1, -1, 0), -6);
        same("a 100", x.table(0, 1, 1, 100, 0), -6);
        same("the least", x.table(0, 1, 1, 0, 0), 0);
        same("the most", x.table(6, 999, 9, 99, 1), 1);
        int[] due = {6, 999, 9, 99, 1, 3};
        for (int what = 0; what < 6; what++) {
            same("of the new table", x.tableOf(1, what), due[what]);
        }
        for (int t = 2; t < 8; t++) {
            same("more", x.table(1, 2, 3, 4, 0), t);
        }
        same("no room", x.table(1, 2, 3, 4, 0), -7);
        same("wrong ahead of room", x.table(1, 0, 3, 4, 0), -6);
        same("nobody ahead of room", x.table(1, 2, 3, 4, 4), -1);
        refusals(x, 6, 0, 0, 0, 0, 7, 1);
    }

    private static void tables11() {
        TablesAndTips x = withWaiters(2);
        ints(x, 0, 9, 1, 50, 2, 10, 1, 2, 60, 3, 11, 0, 3, 70, 4, 12, 2, 0, 1, 1, 1, 0);
        same("until one that can't be one", x.tables(0, 1, 20), 2);
        same("two came", x.status(0), 2);
        same("the first one's bill", x.tableOf(0, 1), 50);
        same("the first one's waiter", x.tableOf(0, 4), 1);
        same("the second one's a", x.tableOf(1, 3), 11);
        same("none", x.tables(0, 21, 0), 0);
        same("no such end", x.tables(0, 22, 0), -5);
        same("beyond", x.tables(0, 2, 20), -5);
        same("below", x.tables(0, -1, 5), -5);
        same("size below 0 ahead", x.tables(0, -1, -5), -4);
        same("no multiple of five", x.tables(0, 0, 7), -6);
        same("beyond ahead of that", x.tables(0, 20, 7), -5);
        x.show(1, 0);
        same("guests", x.tables(1, 0, 5), -2);
        same("nothing", x.tables(2, 0, 5), -3);
        same("no shelf", x.tables(8, 0, 5), -1);
        refusals(x, 1, 1, 1, 1, 4, 1, 0);
        x.row(0, 3, 40);
        for (int i = 0; i < 40; i++) {
            x.set(0, i, (i % 5 == 4 ? 0 : 1) + (1L << 32) * i);
        }
        same("until there is no room, by the lowest 32 bits", x.tables(0, 0, 40), 6);
        same("eight", x.status(0), 8);
        same("none more", x.tables(0, 0, 5), 0);
        refusals(x, 1, 1, 1, 1, 4, 1, 0);
    }

    private static void serves12() {
        TablesAndTips x = full();
        same("by whom it was", x.serves(5, 3), 1);
        same("by whom it was then", x.serves(5, 3), 3);
        same("its waiter", x.tableOf(5, 4), 3);
        same("their tables", x.waiterOf(3, 6), 3);
        same("the other's tables", x.waiterOf(1, 6), 1);
        same("no table", x.serves(8, 0), -1);
        same("no table -1", x.serves(-1, 0), -1);
        same("no waiter", x.serves(0, 4), -1);
        same("no waiter -1", x.serves(0, -1), -1);
        same("refused, it stays", x.tableOf(0, 4), 0);
        refusals(x, 4, 0, 0, 0, 0, 0, 0);
    }

    private static void becomes13() {
        TablesAndTips x = withWaiters(2);
        int[] first = {1, 0, 0, 1, 0};
        int[] least = {0, 0, 0, 1, 0};
        int[] most = {6, 3, 99, 9, 999};
        for (int what = 0; what < 5; what++) {
            same("what it was at first", x.becomes(1, what, most[what]), first[what]);
            same("the most", x.becomes(1, what, least[what]), most[what]);
            same("above", x.becomes(1, what, most[what] + 1), -6);
            same("below", x.becomes(1, what, least[what] - 1), -6);
            same("the least", x.waiterOf(1, what), least[what]);
        }
        same("nothing of the other", x.waiterOf(0, 3), 1);
        same("another what, ahead of v", x.becomes(0, 5, -1), -5);
        same("what -1", x.becomes(0, -1, 1), -5);
        same("no waiter ahead of what", x.becomes(2, 9, 1), -1);
        same("no waiter -1", x.becomes(-1, 0, 1), -1);
        refusals(x, 2, 0, 0, 0, 2, 10, 0);
    }

    private static void ask14() {
        TablesAndTips x = new TablesAndTips();
        int[] first = {0, 0, 10, 15, 20};
        int[] most = {3, 30, 99, 99, 99};
        for (int what = 0; what < 5; what++) {
            same("at first", x.ask(what, most[what]), first[what]);
            same("the most", x.ask(what, 0), most[what]);
            same("above", x.ask(what, most[what] + 1), -6);
            same("below", x.ask(what, -1), -6);
            same("refused, it stays", x.ask(what, 1), 0);
        }
        same("what 5", x.ask(5, 1), -6);
        same("what -1", x.ask(-1, 1), -6);
        refusals(x, 0, 0, 0, 0, 0, 12, 0);
    }

    private static void tableOf15waiterOf16() {
        TablesAndTips x = new TablesAndTips();
        x.waiter(4, 7, 30);
        x.waiter(2, 8, 31);
        x.becomes(1, 1, 3);
        x.becomes(1, 3, 6);
        x.table(3, 200, 5, 10, 1);
        x.table(1, 100, 1, 50, 1);
        int[] table = {3, 200, 5, 10, 1, 5};
        for (int what = 0; what < 6; what++) {
            same("of a table", x.tableOf(0, what), table[what]);
        }
        int[] waiter = {2, 3, 8, 6, 31, 0, 2};
        for (int what = 0; what < 7; what++) {
            same("of a waiter", x.waiterOf(1, what), waiter[what]);
        }
        x.evening();
        same("saved", x.waiterOf(1, 5), 95);
        same("saved of who has no table", x.waiterOf(0, 5), 0);
        same("no table of who has none", x.waiterOf(0, 6), 0);
        same("table what 6", x.tableOf(0, 6), -5);
        same("table what -1", x.tableOf(0, -1), -5);
        same("no table", x.tableOf(2, 0), -5);
        same("no table -1", x.tableOf(-1, 0), -5);
        same("waiter what 7", x.waiterOf(0, 7), -5);
        same("waiter what -1", x.waiterOf(0, -1), -5);
        same("no waiter", x.waiterOf(2, 0), -5);
        same("no waiter -1", x.waiterOf(-1, 0), -5);
        refusals(x, 0, 0, 0, 0, 8, 0, 0);
    }

    private static void house17() {
        TablesAndTips x = new TablesAndTips();
        reads(x, "waiter 6 99 999;waiter 0 0 000;table 6 999 9 99 1;sharing 3;added 30;numbers 99 0 5", 6, NONE);
        int[] waiter = {6, 0, 99, 1, 999, 0, 0};
        for (int what = 0; what < 7; what++) {
            same("a waiter read", x.waiterOf(0, what), waiter[what]);
        }
        int[] table = {6, 999, 9, 99, 1, 0};
        for (int what = 0; what < 6; what++) {
            same("a table read", x.tableOf(0, what), table[what]);
        }
        same("sharing read", x.ask(0, 0), 3);
        same("added read", x.ask(1, 0), 30);
        same("number 0 read", x.ask(2, 0), 99);
        same("number 1 read", x.ask(3, 0), 0);
        same("number 2 read", x.ask(4, 0), 5);
        reads(x, "table 001 010 001 007 000", 1, NONE);
        same("told over what there is", x.status(0), 2);
        same("numbers may begin with 0", x.tableOf(1, 1), 10);
        reads(x, "sharing 1;sharing 2;waiter 1 1 1;added 31", -6, 39);
        same("all or nothing: sharing", x.status(3), 0);
        same("all or nothing: waiters", x.status(1), 2);
        x.show(0, 0);
        same("guests", x.house(0), -2);
        same("nothing", x.house(1), -3);
        same("no shelf", x.house(8), -1);
        same("no shelf -1", x.house(-1), -1);
        refusals(x, 2, 1, 1, 0, 0, 1, 0);
        x.row(2, 3, 9);
        for (int i = 0; i < 9; i++) {
            x.set(2, i, "sharing 1".charAt(i) + (7L << 32));
        }
        same("longs by their lowest 32 bits", x.house(2), 1);
        same("it was read", x.status(3), 1);
        x.row(2, 1, 9);
        for (int i = 0; i < 9; i++) {
            x.set(2, i, "sharing 2".charAt(i) + (i == 8 ? 256 : 0));
        }
        same("shorts by all their bits", x.house(2), -6);
        same("the one that is no letter", x.fault(), 8);
    }

    private static void fault18() {
        TablesAndTips x = new TablesAndTips();
        same("none yet", x.fault(), NONE);
        reads(x, "", -6, 0);
        same("nothing in it", x.house(0), -3);
        same("that came to no row", x.fault(), 0);
        reads(x, "added 3", 1, NONE);
        faulty("x", 0);
        faulty(" added 3", 0);
        faulty("Added 3", 0);
        faulty("adder 3", 4);
        faulty("added", 5);
        faulty("added3", 5);
        faulty("added  3", 6);
        faulty("added ", 6);
        faulty("added x", 6);
        faulty("added 3 ", 7);
        faulty("added 3x", 7);
        faulty("added 0030", 9);
        faulty("added 031", 6);
        faulty("added 3;", 8);
        faulty("added 3;;added 3", 8);
        faulty("added 3; added 3", 8);
        faulty("added 3;t", 9);
        faulty("sharing 4", 8);
        faulty("sharing -1", 8);
        faulty("numbers 1 2", 11);
        faulty("numbers 100 2 3", 8);
        faulty("numbers 1 100 3", 10);
        faulty("numbers 1 2 100", 12);
        faulty("numbers 1 2 3 4", 13);
        faulty("waiter 7 1 1", 7);
        faulty("waiter 6 100 1", 9);
        faulty("waiter 6 99 1000", 15);
        faulty("waiter 6 99", 11);
    }

    private static void faultsOfWordsAndRoom() {
        faulty("table 0 1 1 1 0", 14);
        faulty("waiter 0 0 0;table 7 1 1 1 0", 19);
        faulty("waiter 0 0 0;table 0 0 1 1 0", 21);
        faulty("waiter 0 0 0;table 0 1 0 1 0", 23);
        faulty("waiter 0 0 0;table 0 1 10 1 0", 23);
        faulty("waiter 0 0 0;table 0 1 1 100 0", 25);
        faulty("waiter 0 0 0;table 0 1 1 1 1", 27);
        faulty("table 0 1 1 1 0;waiter 0 0 0", 14);
        reads(new TablesAndTips(), "waiter 0 0 0;waiter 1 0 0;table 0 1 1 1 1", 3, NONE);
        TablesAndTips x = full();
        reads(x, "added 1;table 0 1 1 1 0", -6, 8);
        reads(x, "added 1;table", -6, 8);
        reads(x, "added 1;tablex", -6, 8);
        reads(x, "added 1;tabl", -6, 12);
        reads(x, "added 1;tabel", -6, 11);
        reads(x, "waiter 0 0 0", -6, 0);
        reads(x, "waiter", -6, 0);
        reads(x, "waite", -6, 5);
        reads(x, "waits", -6, 4);
        reads(x, "added 9", 1, NONE);
        same("nothing came of the others", x.status(4), 9);
        TablesAndTips y = withWaiters(3);
        reads(y, "waiter 0 0 0;waiter 0 0 0", -6, 13);
        same("the first of them neither", y.status(1), 3);
    }

    private static TablesAndTips ofOneTable(int kind, int bill, int party, int a, int skill) {
        TablesAndTips x = new TablesAndTips();
        x.waiter(skill, 0, 0);
        x.table(kind, bill, party, a, 0);
        return x;
    }

    private static void would19() {
        same("gift", ofOneTable(0, 999, 9, 99, 6).would(0), 99);
        same("custom is cut", ofOneTable(1, 199, 1, 10, 6).would(0), 19);
        same("rounded", ofOneTable(2, 83, 1, 10, 0).would(0), 17);
        same("rounded by one", ofOneTable(2, 82, 1, 9, 0).would(0), 8);
        same("rounded by nine", ofOneTable(2, 81, 1, 0, 0).would(0), 9);
        same("a multiple already", ofOneTable(2, 100, 1, 10, 0).would(0), 10);
        same("served", ofOneTable(3, 199, 4, 10, 3).would(0), 31);
        same("nudged", ofOneTable(4, 199, 4, 10, 3).would(0), 29);
        same("shown without a table ahead", ofOneTable(5, 199, 4, 10, 3).would(0), 19);
        same("grudged", ofOneTable(6, 500, 2, 4, 3).would(0), 18);
        same("grudged by service 5", ofOneTable(6, 500, 2, 4, 5).would(0), 30);
        same("grudged by service 6", ofOneTable(6, 500, 2, 4, 6).would(0), 32);
        same("grudged: 0 at least", ofOneTable(6, 10, 1, 99, 0).would(0), 0);
        TablesAndTips first = ofOneTable(5, 100, 1, 0, 0);
        same("shown nothing", first.would(0), 0);
        first.ask(1, 9);
        same("nor what it gives itself", first.would(0), 0);
        TablesAndTips x = ofOneTable(0, 1, 1, 40, 0);
        x.table(5, 100, 1, 30, 0);
        x.table(5, 100, 1, 50, 0);
        same("shown as much as ahead", x.would(1), 40);
        same("shown more than ahead", x.would(2), 50);
        TablesAndTips y = ofOneTable(4, 100, 1, 0, 0);
        int[][] numbers = {{1, 2, 3}, {1, 3, 2}, {2, 1, 3}, {2, 3, 1}, {3, 1, 2}, {3, 2, 1}, {2, 2, 9}, {9, 2, 2},
            {2, 9, 2}, {1, 2, 2}};
        for (int[] n : numbers) {
            y.ask(2, n[0]);
            y.ask(3, n[1]);
            y.ask(4, n[2]);
            same("the second by size", y.would(0), 2);
        }
        y.becomes(0, 1, 3);
        TablesAndTips z = ofOneTable(3, 1, 9, 0, 6);
        z.becomes(0, 1, 3);
        same("effort counts", z.would(0), 81);
        same("no table", z.would(1), -1);
        same("no table -1", z.would(-1), -1);
        refusals(z, 2, 0, 0, 0, 0, 0, 0);
    }

    private static void gives20all21() {
        TablesAndTips x = ofOneTable(0, 199, 1, 30, 0);
        x.table(0, 199, 1, 10, 0);
        x.table(5, 100, 1, 5, 0);
        same("gives as it would", x.gives(0), 30);
        same("shown", x.gives(2), 10);
        same("all", x.all(), 50);
        x.ask(1, 10);
        same("added is less", x.gives(0), 30);
        same("added is more", x.gives(1), 19);
        same("shown goes by added and all", x.gives(2), 19);
        same("and would", x.would(2), 19);
        same("would is not touched by its own added", x.would(1), 10);
        same("all with added", x.all(), 68);
        same("no table", x.gives(3), -1);
        same("no table -1", x.gives(-1), -1);
        refusals(x, 2, 0, 0, 0, 0, 0, 0);
        same("all of none", new TablesAndTips().all(), 0);
    }

    /** Three WAITERS, who have 20, 41 and 0. */
    private static TablesAndTips three() {
        TablesAndTips x = new TablesAndTips();
        x.waiter(0, 3, 0);
        x.waiter(0, 2, 0);
        x.waiter(0, 1, 0);
        x.table(0, 1, 1, 13, 0);
        x.table(0, 1, 1, 7, 0);
        x.table(0, 1, 1, 41, 1);
        return x;
    }

    private static void share22() {
        TablesAndTips x = three();
        int[][] due = {{20, 41, 0}, {20, 20, 20}, {20, 20, 20}, {20, 30, 10}};
        int[] own = {20, 41, 0};
        for (int sharing = 0; sharing < 4; sharing++) {
            x.ask(0, sharing);
            for (int w = 0; w < 3; w++) {
                same("share by " + sharing, x.share(w, 1), due[sharing][w]);
                same("own by " + sharing, x.share(w, 0), own[w]);
            }
        }
        x.ask(0, 2);
        x.becomes(0, 3, 9);
        x.becomes(2, 3, 4);
        same("by points 9 of 14", x.share(0, 1), 39);
        same("by points 1 of 14", x.share(1, 1), 4);
        same("by points 4 of 14", x.share(2, 1), 17);
        x.ask(0, 3);
        x.table(0, 1, 1, 4, 2);
        x.table(0, 1, 1, 1, 2);
        same("half: 2 of 5 and 11 of pot 22", x.share(2, 1), 13);
        same("another what", x.share(0, 2), -5);
        same("what -1", x.share(0, -1), -5);
        same("no waiter ahead of what", x.share(3, 2), -1);
        same("no waiter -1", x.share(-1, 0), -1);
        refusals(x, 2, 0, 0, 0, 2, 0, 0);
        TablesAndTips alone = ofOneTable(0, 1, 1, 15, 0);
        same("own at once", alone.share(0, 0), 15);
        alone.ask(0, 1);
        same("the pot of one", alone.share(0, 1), 15);
        alone.ask(0, 2);
        same("the only point", alone.share(0, 1), 15);
        same("turns of one", alone.turns(0, 2), 30);
        TablesAndTips y = withWaiters(2);
        y.table(0, 1, 1, 15, 0);
        y.ask(0, 3);
        same("pot's share is cut and then halved", y.share(1, 1), 3);
        same("each half is cut", y.share(0, 1), 10);
    }

    private static void gain23() {
        TablesAndTips x = three();
        x.becomes(0, 1, 2);
        same("as it is", x.gain(0, NONE), 20 - 3 * 2 * 2);
        same("effort 0", x.gain(0, 0), 20);
        same("effort 3", x.gain(0, 3), 2);
        same("of one table", x.gain(1, 3), 35);
        same("of no table", x.gain(2, 3), 0);
        same("nothing is changed", x.waiterOf(0, 1), 2);
        x.becomes(0, 2, 99);
        same("below 0", x.gain(0, 3), 20 - 99 * 3 * 2);
        same("effort 4", x.gain(0, 4), FAR - 6);
        same("effort -2", x.gain(0, -2), FAR - 6);
        same("no waiter ahead of effort", x.gain(3, 4), FAR - 1);
        same("no waiter -1", x.gain(-1, 0), FAR - 1);
        refusals(x, 2, 0, 0, 0, 0, 2, 0);
        TablesAndTips y = ofOneTable(3, 100, 4, 10, 2);
        same("service counts", y.gain(0, 3), 30);
    }

    private static void reply24() {
        TablesAndTips x = ofOneTable(3, 100, 4, 10, 2);
        x.becomes(0, 2, 3);
        x.becomes(0, 1, 1);
        same("pays", x.reply(0), 3);
        x.becomes(0, 2, 4);
        same("of several the least", x.reply(0), 0);
        x.becomes(0, 2, 5);
        same("does not pay", x.reply(0), 0);
        same("nothing is changed", x.waiterOf(0, 1), 1);
        TablesAndTips y = new TablesAndTips();
        y.waiter(3, 8, 0);
        y.table(6, 500, 1, 9, 0);
        same("up to where the grudge ends", y.reply(0), 2);
        same("no waiter", y.reply(1), -1);
        same("no waiter -1", y.reply(-1), -1);
        refusals(y, 2, 0, 0, 0, 0, 0, 0);
    }

    /** Two WAITERS, of whom the second one's guests look at the first one's table. */
    private static TablesAndTips lookers() {
        TablesAndTips x = new TablesAndTips();
        x.waiter(0, 1, 0);
        x.waiter(0, 1, 0);
        x.table(3, 100, 5, 0, 0);
        x.table(3, 100, 4, 0, 1);
        return x;
    }

    private static void rest25() {
        TablesAndTips x = lookers();
        same("one round", x.rest(NONE), 1);
        same("effort of 0 then", x.rest(0), 3);
        same("effort of 1 then", x.rest(1), 3);
        same("nothing is changed", x.waiterOf(0, 1), 0);
        x.becomes(0, 1, 3);
        x.becomes(1, 1, 3);
        same("at rest at first", x.rest(NONE), 0);
        same("no waiter", x.rest(2), -11);
        same("no waiter -2", x.rest(-2), -11);
        refusals(x, 2, 0, 0, 0, 0, 0, 0);
        // By 6 and 7 of 13 points each cut share grows with every other effort: 2 3, 3 2, 2 3 and so on.
        TablesAndTips y = new TablesAndTips();
        y.waiter(2, 0, 0);
        y.waiter(1, 0, 0);
        y.becomes(0, 3, 6);
        y.becomes(1, 3, 7);
        y.table(3, 1, 1, 0, 1);
        y.table(3, 1, 1, 0, 0);
        y.ask(0, 2);
        same("no rest in 30 rounds", y.rest(NONE), NONE);
        same("effort of 0 after 30", y.rest(0), 3);
        same("effort of 1 after 30", y.rest(1), 2);
        y.becomes(0, 1, 3);
        y.becomes(1, 1, 2);
        same("effort of 0 after 30 from 3 2", y.rest(0), 3);
        same("no refusal in that", y.status(11), 0);
        // By 2 and 3 of 5 points: 0 1, then 2 3, 3 2, 1 2.
        y.becomes(0, 0, 0);
        y.becomes(1, 0, 2);
        y.becomes(0, 3, 2);
        y.becomes(1, 3, 3);
        y.becomes(0, 1, 0);
        y.becomes(1, 1, 1);
        same("three rounds", y.rest(NONE), 3);
        same("effort of 0 after three", y.rest(0), 1);
        same("effort of 1 after three", y.rest(1), 2);
        same("without waiters", new TablesAndTips().rest(NONE), 0);
        same("no waiter at all", new TablesAndTips().rest(0), -11);
    }

    private static void rests26() {
        TablesAndTips x = lookers();
        same("one", x.rests(NONE), 1);
        same("the first's 0", x.rests(0), 3);
        same("the first's 1", x.rests(1), 3);
        x.becomes(0, 2, 5);
        same("four, as it is all the same to 0", x.rests(NONE), 4);
        same("the least row's 0", x.rests(0), 0);
        same("the least row's 1", x.rests(1), 3);
        same("no waiter", x.rests(2), -1);
        same("no waiter -2", x.rests(-2), -1);
        refusals(x, 2, 0, 0, 0, 0, 0, 0);
        same("the empty row rests", new TablesAndTips().rests(NONE), 1);
        same("all rows of who has no table", withWaiters(4).rests(NONE), 256);
    }

    private static void best27() {
        TablesAndTips x = new TablesAndTips();
        x.waiter(0, 1, 0);
        x.waiter(0, 3, 0);
        x.table(3, 100, 4, 0, 0);
        x.table(3, 100, 4, 0, 1);
        x.ask(0, 1);
        same("in one pot nobody pays for 1 alone", x.rests(1), 0);
        same("best for all: 0", x.best(0), 3);
        same("best for all: 1", x.best(1), 3);
        x.becomes(0, 1, 2);
        same("whatever it is now", x.best(0), 3);
        x.becomes(1, 2, 4);
        same("of several the first", x.best(1), 0);
        x.becomes(1, 2, 5);
        same("costs more than it brings", x.best(1), 0);
        same("no waiter", x.best(2), -1);
        same("no waiter -1", x.best(-1), -1);
        refusals(x, 2, 0, 0, 0, 0, 0, 0);
    }

    private static void points28() {
        TablesAndTips x = new TablesAndTips();
        x.waiter(0, 0, 10);
        x.waiter(0, 0, 40);
        x.waiter(0, 0, 10);
        x.table(0, 1, 1, 80, 0);
        same("1 2 1 for 10 40 10", x.points(0), 1);
        same("its 1", x.points(1), 2);
        same("its 2", x.points(2), 1);
        x.becomes(2, 4, 39);
        same("no such row", x.points(0), -5);
        x.becomes(0, 4, 0);
        same("1 3 2 would not do", x.points(0), -5);
        x.becomes(2, 4, 26);
        same("1 3 2 does", x.points(2), 2);
        same("1 3 2 does for 1", x.points(1), 3);
        same("nothing is changed", x.waiterOf(1, 3), 1);
        same("nor sharing", x.status(3), 0);
        x.becomes(1, 4, 0);
        x.becomes(2, 4, 0);
        same("none wants: the first row", x.points(0), 1);
        same("no waiter", x.points(3), -1);
        same("no waiter -1", x.points(-1), -1);
        refusals(x, 2, 0, 0, 0, 2, 0, 0);
    }

    private static void leavers29() {
        TablesAndTips x = three();
        same("none wants", x.leavers(), 0);
        x.becomes(0, 4, 21);
        x.becomes(1, 4, 41);
        x.becomes(2, 4, 1);
        same("0 and 2", x.leavers(), 5);
        x.ask(0, 1);
        same("in one pot 0 and 1", x.leavers(), 3);
        same("of nobody", new TablesAndTips().leavers(), 0);
    }

    private static void most30() {
        TablesAndTips x = new TablesAndTips();
        x.waiter(1, 0, 0);
        x.waiter(4, 0, 0);
        x.table(3, 1, 2, 0, 0);
        x.table(3, 1, 5, 0, 0);
        x.table(0, 1, 1, 9, 0);
        same("all by the better one", x.most(3, NONE), 8 + 20 + 9);
        same("of several the first: 2", x.most(3, 2), 0);
        same("one each but one", x.most(2, NONE), 37);
        same("k 2: 0", x.most(2, 0), 1);
        same("k 2: 1", x.most(2, 1), 1);
        same("k 2: 2", x.most(2, 2), 0);
        same("k 8", x.most(8, NONE), 37);
        same("nothing is changed", x.tableOf(0, 4), 0);
        same("it can't be", x.most(1, NONE), -5);
        same("it can't be for a table", x.most(1, 0), -5);
        same("k 0 ahead of that", x.most(0, NONE), -6);
        same("k 9", x.most(9, NONE), -6);
        same("no table ahead of k", x.most(0, 3), -1);
        same("no table -2", x.most(0, -2), -1);
        refusals(x, 2, 0, 0, 0, 2, 2, 0);
        TablesAndTips y = new TablesAndTips();
        y.waiter(1, 0, 0);
        y.waiter(4, 0, 0);
        y.table(3, 1, 2, 0, 0);
        y.table(5, 1, 1, 0, 0);
        y.table(3, 1, 3, 0, 0);
        same("a table is shown what the one ahead gives", y.most(1, NONE), -5);
        same("so the better one goes there", y.most(2, NONE), 8 + 8 + 12);
        same("shown: 0", y.most(2, 0), 1);
        same("shown: 1", y.most(2, 1), 0);
        TablesAndTips none = new TablesAndTips();
        same("without tables", none.most(1, NONE), 0);
        same("without tables k", none.most(0, NONE), -6);
        same("all eight", full().most(2, NONE), 28);
    }

    private static void even31() {
        TablesAndTips x = new TablesAndTips();
        x.waiter(0, 0, 0);
        x.waiter(0, 0, 0);
        x.table(0, 1, 1, 9, 1);
        x.table(0, 1, 1, 5, 1);
        x.table(0, 1, 1, 3, 1);
        same("9 and 8", x.even(2, NONE), 1);
        same("the first row: 0", x.even(2, 0), 0);
        same("the first row: 1", x.even(2, 1), 1);
        same("the first row: 2", x.even(2, 2), 1);
        same("nothing is changed", x.tableOf(0, 4), 1);
        same("it can't be", x.even(1, NONE), -5);
        same("k 0 ahead of that", x.even(0, NONE), -6);
        same("k 9", x.even(9, 0), -6);
        same("no table ahead of k", x.even(9, 3), -1);
        refusals(x, 1, 0, 0, 0, 1, 2, 0);
        x.waiter(0, 0, 0);
        x.waiter(0, 0, 0);
        same("who has no table counts as 0", x.even(8, NONE), 9);
        same("first of several", x.even(8, 1), 0 + 1);
        TablesAndTips none = new TablesAndTips();
        same("without anything", none.even(1, NONE), 0);
        same("waiters without tables", withWaiters(3).even(1, NONE), 0);
    }

    private static void turns32luck33() {
        TablesAndTips x = new TablesAndTips();
        x.waiter(2, 0, 0);
        x.waiter(5, 0, 0);
        x.waiter(0, 0, 0);
        x.table(3, 1, 3, 0, 0);
        x.table(0, 1, 1, 10, 1);
        same("none", x.turns(0, 0), 0);
        same("one", x.turns(0, 1), 6);
        same("by turns 0: table 0, none, table 1", x.turns(0, 3), 6 + 0 + 10);
        same("by turns 1: table 1, table 0, none", x.turns(1, 3), 10 + 15);
        same("by turns 2: none, table 1, table 0", x.turns(2, 3), 10 + 0);
        same("thirty", x.turns(1, 30), 250);
        same("luck 0", x.luck(0), 18 - 16);
        same("luck 1", x.luck(1), 30 - 25);
        same("luck below 0", x.luck(2), -10);
        same("nothing is changed", x.tableOf(0, 4), 0);
        same("31", x.turns(0, 31), -6);
        same("-1", x.turns(0, -1), -6);
        same("no waiter ahead of n", x.turns(3, 31), -1);
        same("no waiter -1", x.turns(-1, 1), -1);
        same("luck of no waiter", x.luck(3), FAR - 1);
        same("luck of no waiter -1", x.luck(-1), FAR - 1);
        refusals(x, 4, 0, 0, 0, 0, 2, 0);
    }

    private static void worth34() {
        TablesAndTips x = new TablesAndTips();
        x.waiter(6, 0, 0);
        x.waiter(4, 0, 0);
        x.waiter(5, 0, 0);
        x.table(3, 100, 3, 0, 0);
        x.table(5, 100, 1, 0, 1);
        x.table(6, 100, 2, 7, 1);
        x.table(6, 100, 2, 7, 2);
        same("skill 6 goes by 7, and the next table is shown it", x.worth(0), 6);
        same("the grudge ends", x.worth(1), 2 + 7);
        same("no grudge", x.worth(2), 2);
        same("nothing is changed", x.waiterOf(0, 0), 6);
        same("no waiter", x.worth(3), FAR - 1);
        same("no waiter -1", x.worth(-1), FAR - 1);
        refusals(x, 2, 0, 0, 0, 0, 0, 0);
    }

    private static void raise35() {
        TablesAndTips x = new TablesAndTips();
        same("without waiters", x.raise(), 0);
        x.waiter(0, 0, 25);
        x.waiter(0, 0, 0);
        x.table(0, 200, 1, 5, 0);
        same("25 of 200", x.raise(), 13);
        x.ask(1, 20);
        same("whatever it is now", x.raise(), 13);
        same("nothing is changed", x.status(4), 20);
        x.ask(0, 1);
        same("in one pot 50 of 200", x.raise(), 25);
        x.becomes(1, 4, 30);
        same("30 of a hundred", x.raise(), 30);
        x.becomes(1, 4, 31);
        same("none", x.raise(), NONE);
        x.becomes(0, 4, 0);
        x.becomes(1, 4, 0);
        same("none is needed", x.raise(), 0);
        refusals(x, 0, 0, 0, 0, 0, 0, 0);
    }

    private static void judge36told37() {
        TablesAndTips x = lookers();
        ints(x, 0, 3, 0, 9);
        same("it may be", x.judge(0), NONE);
        same("gain of 0 by it", x.told(0, 0), 12);
        same("gain of 1 by it", x.told(0, 1), 0);
        x.set(0, 1, 2);
        same("gain of 1 by 2", x.told(0, 1), 6);
        same("nothing is changed", x.waiterOf(0, 1), 0);
        x.becomes(0, 2, 99);
        same("below 0", x.told(0, 0), 15 - 297);
        x.set(0, 1, 4);
        same("the first that may not be", x.judge(0), 1);
        same("told by it", x.told(0, 0), FAR - 6);
        x.set(0, 0, -1);
        same("the first of two", x.judge(0), 0);
        x.row(1, 3, 2);
        x.set(1, 1, (5L << 32) + 3);
        same("longs by their lowest 32 bits", x.judge(1), NONE);
        same("and told", x.told(1, 1), 9);
        x.row(2, 0, 1);
        same("fewer elements", x.judge(2), -5);
        same("fewer elements told", x.told(2, 0), FAR - 5);
        x.set(2, 0, 9);
        same("fewer ahead of wrong", x.told(2, 0), FAR - 5);
        x.show(3, 0);
        same("guests", x.judge(3), -2);
        same("guests told", x.told(3, 0), FAR - 2);
        same("nothing", x.judge(4), -3);
        same("nothing told", x.told(4, 0), FAR - 3);
        same("no shelf", x.judge(8), -1);
        same("no shelf told", x.told(-1, 0), FAR - 1);
        same("no waiter ahead of guests", x.told(3, 2), FAR - 1);
        same("no waiter -1", x.told(0, -1), FAR - 1);
        refusals(x, 4, 2, 2, 0, 3, 1, 0);
        TablesAndTips none = new TablesAndTips();
        none.row(0, 0, 0);
        same("of no waiters", none.judge(0), NONE);
        same("no waiter told", none.told(0, 0), FAR - 1);
    }

    private static void evening38() {
        TablesAndTips x = new TablesAndTips();
        same("no waiters", x.evening(), -5);
        refusals(x, 0, 0, 0, 0, 1, 0, 0);
        x = three();
        same("own: nothing is left over", x.evening(), 0);
        same("saved 0", x.waiterOf(0, 5), 20);
        same("saved 1", x.waiterOf(1, 5), 41);
        x.ask(0, 1);
        same("one pot: 61 by 3", x.evening(), 1);
        same("saved 0 then", x.waiterOf(0, 5), 40);
        same("saved 2 then", x.waiterOf(2, 5), 20);
        x.ask(0, 3);
        same("half: 20, 30, 10 of 61", x.evening(), 2);
        same("the jar", x.status(6), 2);
        same("evenings", x.status(5), 3);
        same("saved 1 then", x.waiterOf(1, 5), 91);
    }

    private static void guests39seed40() {
        TablesAndTips x = new TablesAndTips();
        same("no tables", x.guests(), 0);
        same("no draws", x.status(7), 1);
        x.waiter(0, 0, 0);
        x.waiter(0, 0, 0);
        x.table(0, 1, 1, 1, 0);
        x.table(6, 1, 1, 1, 1);
        x.show(0, 1);
        x.row(1, 0, 3);
        int seed = 1;
        int[][] due = new int[2][4];
        int[] below = {7, 99, 6, 25};
        int[] more = {0, 1, 1, 0};
        for (int t = 0; t < 2; t++) {
            for (int i = 0; i < 4; i++) {
                seed = seed * 1103515245 + 12345;
                due[t][i] = (seed >>> 16) % below[i] + more[i];
            }
        }
        same("all bills", x.guests(), due[0][1] + due[1][1]);
        for (int t = 0; t < 2; t++) {
            for (int i = 0; i < 4; i++) {
                same("drawn", x.tableOf(t, i), due[t][i]);
            }
        }
        same("the waiter stays", x.tableOf(1, 4), 1);
        same("the shelf holds the new ones", x.holds(0), 1);
        same("and they say", x.says(0, 0), due[1][3]);
        same("the row stays", x.holds(1), 100);
        same("seed was", x.seed(-5), seed);
        same("seed now", x.status(7), -5);
        same("seed was -5", x.seed(Integer.MIN_VALUE), -5);
        refusals(x, 0, 0, 0, 0, 0, 0, 0);
    }

    private static void acted(TablesAndTips x, int table, int act, int arg, int due, int... bodies) {
        String what = "act(" + table + ", " + act + ", " + arg + ")";
        same(what, x.act(table, act, arg), due);
        same("bodies of " + what, x.status(8), bodies.length);
        for (int i = 0; i < bodies.length; i++) {
            same("body of " + what, x.trace(i), bodies[i]);
        }
        same("no more of " + what, x.trace(bodies.length), NONE);
        same("none ahead of " + what, x.trace(-1), NONE);
    }

    /** m is the number of the table and its KIND too; k is 4. */
    private static void act41trace42() {
        TablesAndTips x = withWaiters(1);
        same("no trace at first", x.trace(0), NONE);
        for (int kind = 0; kind < 7; kind++) {
            x.table(kind, 1, 1, 4, 0);
        }
        acted(x, 0, 0, 10, 10, 10);
        acted(x, 0, 1, 10, 20, 11, 10);
        acted(x, 0, 2, 10, 20 ^ 6, 12, 11, 10, 10);
        acted(x, 1, 0, 10, 15, 20, 10);
        acted(x, 1, 1, 10, 30, 11, 20, 10);
        acted(x, 1, 2, 10, 30 ^ 11, 12, 11, 20, 10, 20, 10);
        acted(x, 2, 0, 10, 16, 20, 10);
        acted(x, 2, 1, 10, 96, 30, 11, 20, 10);
        acted(x, 2, 2, 10, 96 ^ 12, 12, 30, 11, 20, 10, 20, 10);
        acted(x, 3, 0, 10, 17, 20, 10);
        acted(x, 3, 1, 10, 36, 40, 11, 20, 10);
        acted(x, 3, 2, 10, 36 ^ 13, 12, 40, 11, 20, 10, 20, 10);
        acted(x, 4, 0, 10, 14, 10);
        acted(x, 4, 1, 10, 28, 11, 10);
        acted(x, 4, 2, 10, 28 ^ 10 ^ 5, 60, 12, 11, 10, 10);
        acted(x, 5, 0, 10, 38, 70, 20, 10);
        acted(x, 5, 1, 10, 60, 71, 11, 70, 20, 10);
        acted(x, 5, 2, 10, 60 ^ 30, 12, 71, 11, 70, 20, 10, 70, 20, 10);
        acted(x, 6, 0, 10, 14, 51, 20, 10);
        acted(x, 6, 1, 10, 30, 40, 11, 51, 20, 10);
        acted(x, 6, 2, 10, -(30 ^ 10), 50, 12, 40, 11, 51, 20, 10, 51, 20, 10);
        acted(x, 1, 0, Integer.MAX_VALUE, Integer.MIN_VALUE + 4, 20, 10);
        acted(x, 0, 1, Integer.MIN_VALUE, 0, 11, 10);
        acted(x, 7, 0, 10, 0);
        acted(x, 1, 0, 10, 15, 20, 10);
        acted(x, 1, 3, 10, 0);
        acted(x, 1, 0, 10, 15, 20, 10);
        acted(x, -1, 0, 10, 0);
        acted(x, 0, -1, 10, 0);
        refusals(x, 0, 0, 0, 0, 0, 0, 0);
    }

    private static void image43restore44() {
        TablesAndTips x = three();
        same("none yet", x.restore(), -6);
        x.ask(0, 1);
        x.ask(1, 5);
        x.ask(2, 33);
        x.seed(77);
        x.becomes(0, 1, 3);
        x.becomes(0, 3, 4);
        x.evening();
        same("taken", x.image(), 3);
        x.table(1, 50, 2, 3, 2);
        x.waiter(1, 1, 1);
        x.show(0, 3);
        x.show(1, 2);
        text(x, 2, "bad");
        x.house(2);
        x.act(0, 0, 1);
        x.serves(0, 2);
        x.guests();
        x.ask(0, 2);
        x.ask(1, 6);
        x.ask(2, 34);
        x.becomes(0, 1, 1);
        x.becomes(0, 3, 5);
        x.evening();
        same("restored", x.restore(), 3);
        same("tables", x.status(0), 3);
        same("waiters", x.status(1), 3);
        same("bill of a table", x.tableOf(0, 1), 1);
        same("a of a table", x.tableOf(0, 3), 13);
        same("its waiter", x.tableOf(0, 4), 0);
        same("sharing", x.status(3), 1);
        same("added", x.status(4), 5);
        same("number 0", x.ask(2, 33), 33);
        same("seed", x.status(7), 77);
        same("effort", x.waiterOf(0, 1), 3);
        same("points", x.waiterOf(0, 3), 4);
        same("saved", x.waiterOf(0, 5), 20);
        same("evenings", x.status(5), 1);
        same("jar", x.status(6), 1);
        same("the shelf of a table that is no more", x.holds(0), NONE);
        same("the shelf of one that is", x.holds(1), 2);
        same("a row stays", x.holds(2), 100);
        same("the refusals stay", x.status(16), 2);
        same("the fault stays", x.fault(), 0);
        same("the trace stays", x.trace(0), 10);
        same("the trace's count stays", x.status(8), 1);
        x.ask(0, 3);
        same("again", x.restore(), 3);
        same("sharing again", x.status(3), 1);
        x.ask(0, 0);
        same("a newer one", x.image(), 3);
        x.ask(0, 2);
        same("is the one", x.restore(), 3);
        same("sharing of it", x.status(3), 0);
        TablesAndTips empty = new TablesAndTips();
        same("an image of nothing", empty.image(), 0);
        empty.waiter(1, 1, 1);
        empty.table(0, 1, 1, 1, 0);
        same("nothing again", empty.restore(), 0);
        same("no waiters again", empty.status(1), 0);
        same("nothing given again", empty.all(), 0);
    }

    private static void status45() {
        TablesAndTips x = three();
        x.ask(0, 1);
        x.ask(1, 2);
        x.evening();
        x.act(2, 2, 1);
        int[] due = {3, 3, 3, 1, 2, 1, 1, 1, 4};
        for (int what = 0; what < due.length; what++) {
            same("status " + what, x.status(what), due[what]);
        }
        x.row(8, 0, 0);
        x.row(0, 0, -1);
        x.row(0, 4, 0);
        x.row(0, 0, 161);
        x.house(0);
        x.tableOf(9, 0);
        x.show(1, 0);
        x.house(1);
        refusals(x, 1, 1, 1, 1, 1, 1, 1);
        int[] none = {-1, 9, 10, 18, Integer.MAX_VALUE, Integer.MIN_VALUE};
        for (int what : none) {
            same("status " + what, x.status(what), NONE);
        }
        refusals(x, 1, 1, 1, 1, 1, 1, 1);
    }
}
