/** The boundary cases of what there is: promises 9 to 16, and which numbers a TABLE and a WAITER can have. */
public final class HouseEdgesTest extends Edges {
    private static final int[] TABLE_LEAST = {0, 1, 1, 0, 0};
    private static final int[] TABLE_MOST = {6, 999, 9, 99, 2};
    private static final int[] WAITER_LEAST = {0, 0, 0, 1, 0};
    private static final int[] WAITER_MOST = {6, 3, 99, 9, 999};
    private static final int[] SETTING_MOST = {3, 30, 99, 99, 99};

    private HouseEdgesTest() {
    }

    public static void main(String[] args) {
        waiter9();
        waiterRoom9();
        table10();
        tableRefused10();
        tableRoom10();
        tables11();
        tablesUntil11();
        tablesRefused11();
        serves12();
        becomes13();
        ask14();
        tableOf15();
        waiterOf16();
        Checks.end("HouseEdgesTest");
    }

    private static void waiter9() {
        int[][] bounds = {{0, 0, 0}, {6, 99, 999}, {0, 99, 0}, {6, 0, 0}, {0, 0, 999}};
        for (int[] b : bounds) {
            TablesAndTips x = busy();
            does("9: SKILL 0 to 6, PAINS 0 to 99, WANT 0 to 999: the number", x, 3, y -> y.waiter(b[0], b[1], b[2]));
            int[] due = {b[0], 0, b[1], 1, b[2], 0, 0};
            for (int what = 0; what < due.length; what++) {
                Checks.same("9: of a new WAITER, " + what, x.waiterOf(3, what), due[what]);
            }
        }
        for (int v : new int[] {LEAST, -1, 7, MOST}) {
            refused("9: -6 SKILL", Edges::busy, -6, x -> x.waiter(v, 0, 0));
        }
        for (int v : new int[] {LEAST, -1, 100, MOST}) {
            refused("9: -6 PAINS", Edges::busy, -6, x -> x.waiter(0, v, 0));
        }
        for (int v : new int[] {LEAST, -1, 1000, MOST}) {
            refused("9: -6 WANT", Edges::busy, -6, x -> x.waiter(0, 0, v));
        }
    }

    private static void waiterRoom9() {
        TablesAndTips x = fresh();
        for (int w = 0; w < 4; w++) {
            does("9: WAITERS have numbers, from 0 on, 4 at most", x, w, y -> y.waiter(1, 1, 1));
            Checks.same("9: how many", x.status(1), w + 1);
        }
        refused("9: -7 a fifth", Edges::full, -7, y -> y.waiter(0, 0, 0));
        refused("9: -6 SKILL ahead of -7", Edges::full, -6, y -> y.waiter(7, 0, 0));
        refused("9: -6 PAINS ahead of -7", Edges::full, -6, y -> y.waiter(0, -1, 0));
        refused("9: -6 WANT ahead of -7", Edges::full, -6, y -> y.waiter(0, 0, 1000));
        TablesAndTips again = withWaiters(2);
        again.waiter(9, 9, 9);
        does("9: who was refused has taken no number", again, 2, y -> y.waiter(0, 0, 0));
    }

    private static void table10() {
        int[] middle = {1, 50, 3, 10, 1};
        for (int what = 0; what < 5; what++) {
            for (int v : new int[] {TABLE_LEAST[what], TABLE_MOST[what]}) {
                int[] t = middle.clone();
                t[what] = v;
                TablesAndTips x = busy();
                does("10: KIND 0 to 6, BILL 1 to 999, PARTY 1 to 9, a 0 to 99, a WAITER: " + what + " " + v, x, 5,
                    y -> y.table(t[0], t[1], t[2], t[3], t[4]));
                for (int part = 0; part < 5; part++) {
                    Checks.same("10: of a new TABLE, " + part, x.tableOf(5, part), t[part]);
                }
            }
        }
        for (int kind = 0; kind < 7; kind++) {
            int k = kind;
            does("10: each KIND", busy(), 5, y -> y.table(k, 1, 1, 0, 0));
        }
    }

    private static void tableRefused10() {
        for (int v : new int[] {LEAST, -1, 7, MOST}) {
            refused("10: -1 KIND", Edges::busy, -1, x -> x.table(v, 1, 1, 0, 0));
            refused("10: -1 KIND ahead of -6", Edges::busy, -1, x -> x.table(v, 0, 10, 100, 0));
            refused("10: -1 KIND ahead of -7", Edges::full, -1, x -> x.table(v, 1, 1, 0, 0));
        }
        for (int v : new int[] {LEAST, -1, 3, 4, MOST}) {
            refused("10: -1 WAITER", Edges::busy, -1, x -> x.table(0, 1, 1, 0, v));
            refused("10: -1 WAITER ahead of -6", Edges::busy, -1, x -> x.table(0, 1000, 0, -1, v));
        }
        refused("10: -1 WAITER ahead of -7", Edges::full, -1, x -> x.table(0, 1, 1, 0, 4));
        refused("10: a table can't be without a WAITER", Edges::fresh, -1, x -> x.table(0, 1, 1, 0, 0));
        for (int v : new int[] {LEAST, -1, 0, 1000, MOST}) {
            refused("10: -6 BILL", Edges::busy, -6, x -> x.table(0, v, 1, 0, 0));
        }
        for (int v : new int[] {LEAST, -1, 0, 10, MOST}) {
            refused("10: -6 PARTY", Edges::busy, -6, x -> x.table(0, 1, v, 0, 0));
        }
        for (int v : new int[] {LEAST, -1, 100, MOST}) {
            refused("10: -6 a", Edges::busy, -6, x -> x.table(0, 1, 1, v, 0));
        }
    }

    private static void tableRoom10() {
        TablesAndTips x = withWaiters(1);
        for (int t = 0; t < 8; t++) {
            does("10: TABLES have numbers, from 0 on, 8 at most", x, t, y -> y.table(0, 1, 1, 0, 0));
            Checks.same("10: how many", x.status(0), t + 1);
        }
        refused("10: -7 a ninth", Edges::full, -7, y -> y.table(0, 1, 1, 0, 0));
        refused("10: -6 BILL ahead of -7", Edges::full, -6, y -> y.table(0, 0, 1, 0, 0));
        refused("10: -6 PARTY ahead of -7", Edges::full, -6, y -> y.table(0, 1, 0, 0, 0));
        refused("10: -6 a ahead of -7", Edges::full, -6, y -> y.table(0, 1, 1, 100, 0));
        TablesAndTips again = withWaiters(1);
        again.table(0, 0, 1, 0, 0);
        does("10: what was refused has taken no number", again, 0, y -> y.table(0, 1, 1, 0, 0));
    }

    /** Two WAITERS, no TABLE; SHELF 0 holds eleven elements: something, then two TABLES. */
    private static TablesAndTips brought() {
        TablesAndTips x = withWaiters(2);
        row(x, 0, 2, -9, 6, 999, 9, 99, 1, 0, 1, 1, 0, 0);
        return x;
    }

    private static void tables11() {
        TablesAndTips x = brought();
        does("11: five each, from i on, up to the end", x, 2, y -> y.tables(0, 1, 10));
        int[][] due = {{6, 999, 9, 99, 1}, {0, 1, 1, 0, 0}};
        for (int t = 0; t < 2; t++) {
            for (int part = 0; part < 5; part++) {
                Checks.same("11: as table() has them", x.tableOf(t, part), due[t][part]);
            }
        }
        does("11: one of them", x, 1, y -> y.tables(0, 6, 5));
        Checks.same("11: no more than n elements", x.status(0), 3);
        for (int i : new int[] {0, 1, 10, 11}) {
            tells("11: n 0: none came", HouseEdgesTest::brought, 0, y -> y.tables(0, i, 0));
        }
        tells("11: n 0 of an empty ROW", () -> after(brought(), y -> y.row(0, 0, 0)), 0, y -> y.tables(0, 0, 0));
        TablesAndTips longs = after(withWaiters(1), y -> row(y, 0, 3, 1L << 32, (1L << 33) + 1, 1, 1L << 40, 1L << 63));
        does("11: of longs the lowest 32 bits", longs, 1, y -> y.tables(0, 0, 5));
        Checks.same("11: BILL by the lowest 32 bits", longs.tableOf(0, 1), 1);
    }

    private static void stopsAt(int part, int v) {
        TablesAndTips x = withWaiters(1);
        long[] row = {0, 1, 1, 0, 0, 0, 1, 1, 0, 0, 0, 2, 1, 0, 0};
        row[5 + part] = v;
        row(x, 0, 2, row);
        does("11: until one that can't be one, nothing is refused: " + part + " " + v, x, 1, y -> y.tables(0, 0, 15));
        Checks.same("11: none after it", x.status(0), 1);
        does("11: none if the first can't be", x, 0, y -> y.tables(0, 5, 10));
        Checks.same("11: then none came", x.status(0), 1);
    }

    private static void tablesUntil11() {
        int[] most = {6, 999, 9, 99, 0};
        for (int part = 0; part < 5; part++) {
            stopsAt(part, TABLE_LEAST[part] - 1);
            stopsAt(part, most[part] + 1);
        }
        TablesAndTips x = withWaiters(1);
        x.row(0, 0, 45);
        for (int i = 0; i < 45; i++) {
            x.set(0, i, i % 5 == 4 ? 0 : 1);
        }
        tells("11: none without a WAITER", () -> after(fresh(), y -> row(y, 0, 0, 0, 1, 1, 0, 0)), 0,
            y -> y.tables(0, 0, 5));
        does("11: until there is no room, nothing is refused", x, 8, y -> y.tables(0, 0, 45));
        does("11: no room for one more", x, 0, y -> y.tables(0, 0, 5));
        Checks.same("11: 8 at most", x.status(0), 8);
        TablesAndTips whole = withWaiters(1);
        whole.row(0, 0, 160);
        whole.set(0, 156, 1);
        whole.set(0, 157, 1);
        does("11: the last five of 160", whole, 1, y -> y.tables(0, 155, 5));
    }

    private static void tablesRefused11() {
        Made made = HouseEdgesTest::brought;
        for (int s : NOWHERE) {
            refused("11: -1 no such SHELF", made, -1, x -> x.tables(s, 1, 5));
        }
        refused("11: -2 GUESTS", Edges::busy, -2, x -> x.tables(4, 0, 5));
        refused("11: -3 NOTHING", Edges::busy, -3, x -> x.tables(7, 0, 5));
        for (int n : new int[] {LEAST, -5, -1}) {
            refused("11: -4 n", made, -4, x -> x.tables(0, 1, n));
        }
        int[][] beyond = {{-1, 0}, {-1, 5}, {LEAST, 5}, {12, 0}, {11, 5}, {7, 5}, {2, 10}, {0, 15}, {MOST, 5},
            {5, MOST - 2}, {MOST, MOST - 2}};
        for (int[] b : beyond) {
            refused("11: -5 an element that isn't there", made, -5, x -> x.tables(0, b[0], b[1]));
        }
        for (int n : new int[] {1, 4, 6, 9}) {
            refused("11: -6 n is no multiple of five", made, -6, x -> x.tables(0, 1, n));
        }
        refused("11: -1 ahead of -4", Edges::busy, -1, x -> x.tables(8, 0, -1));
        refused("11: -1 ahead of -6", Edges::busy, -1, x -> x.tables(8, 0, 1));
        refused("11: -2 ahead of -4", Edges::busy, -2, x -> x.tables(4, 0, -1));
        refused("11: -2 ahead of -5", Edges::busy, -2, x -> x.tables(4, -1, 5));
        refused("11: -3 ahead of -4", Edges::busy, -3, x -> x.tables(7, 0, -1));
        refused("11: -3 ahead of -5", Edges::busy, -3, x -> x.tables(7, -1, 5));
        refused("11: -3 ahead of -6", Edges::busy, -3, x -> x.tables(7, 0, 1));
        refused("11: -4 ahead of -5", made, -4, x -> x.tables(0, -1, -5));
        refused("11: -4 ahead of -6", made, -4, x -> x.tables(0, 1, -1));
        refused("11: -5 ahead of -6", made, -5, x -> x.tables(0, 8, 4));
    }

    private static void serves12() {
        for (int t : new int[] {0, 7}) {
            for (int w : new int[] {0, 3}) {
                TablesAndTips x = full();
                does("12: by whom it was", x, t % 4, y -> y.serves(t, w));
                Checks.same("12: by whom it is", x.tableOf(t, 4), w);
                Checks.same("12: no other table", x.tableOf(3, 4), 3);
                does("12: by whom it was then", x, w, y -> y.serves(t, w));
            }
        }
        for (int t : new int[] {LEAST, -1, 5, 8, MOST}) {
            refused("12: -1 no such table", Edges::busy, -1, x -> x.serves(t, 0));
        }
        for (int w : new int[] {LEAST, -1, 3, 4, MOST}) {
            refused("12: -1 no such WAITER", Edges::busy, -1, x -> x.serves(0, w));
        }
        refused("12: -1 neither", Edges::fresh, -1, x -> x.serves(0, 0));
        refused("12: -1 table 8 of eight", Edges::full, -1, x -> x.serves(8, 0));
        refused("12: -1 WAITER 4 of four", Edges::full, -1, x -> x.serves(0, 4));
    }

    private static void becomes13() {
        int[] busyWaiter = {5, 2, 1, 4, 10};
        for (int what = 0; what < 5; what++) {
            int part = what;
            for (int v : new int[] {WAITER_LEAST[what], WAITER_MOST[what]}) {
                TablesAndTips x = busy();
                does("13: what it was", x, busyWaiter[what], y -> y.becomes(1, part, v));
                Checks.same("13: the least and the most that may be", x.waiterOf(1, what), v);
                Checks.same("13: of no other WAITER", x.waiterOf(2, what), busy().waiterOf(2, what));
                Checks.same("13: nothing else", x.waiterOf(1, (what + 1) % 5), busyWaiter[(what + 1) % 5]);
            }
            for (int v : new int[] {LEAST, WAITER_LEAST[what] - 1, WAITER_MOST[what] + 1, MOST}) {
                refused("13: -6 for " + what, Edges::busy, -6, x -> x.becomes(1, part, v));
                refused("13: -1 ahead of -6", Edges::busy, -1, x -> x.becomes(3, part, v));
            }
        }
        does("13: the last of four", full(), 1, x -> x.becomes(3, 3, 9));
        for (int w : new int[] {LEAST, -1, 3, 4, MOST}) {
            refused("13: -1 no such WAITER", Edges::busy, -1, x -> x.becomes(w, 0, 0));
            refused("13: -1 ahead of -5", Edges::busy, -1, x -> x.becomes(w, 5, 0));
        }
        refused("13: -1 WAITER 4 of four", Edges::full, -1, x -> x.becomes(4, 0, 0));
        for (int what : new int[] {LEAST, -1, 5, 6, MOST}) {
            refused("13: -5 another what", Edges::busy, -5, x -> x.becomes(1, what, 1));
            refused("13: -5 ahead of -6", Edges::busy, -5, x -> x.becomes(1, what, -1));
        }
    }

    private static void ask14() {
        int[] busySettings = {3, 10, 30, 25, 35};
        for (int what = 0; what < 5; what++) {
            int part = what;
            for (int v : new int[] {0, SETTING_MOST[what]}) {
                TablesAndTips x = busy();
                does("14: what it was", x, busySettings[what], y -> y.ask(part, v));
                does("14: the least and the most that may be", x, v, y -> y.ask(part, 1));
                int other = (what + 1) % 5;
                does("14: nothing else", x, busySettings[other], y -> y.ask(other, 1));
            }
            for (int v : new int[] {LEAST, -1, SETTING_MOST[what] + 1, MOST}) {
                refused("14: -6 for " + what, Edges::busy, -6, x -> x.ask(part, v));
            }
        }
        for (int what : new int[] {LEAST, -1, 5, 6, MOST}) {
            refused("14: -6 another what", Edges::busy, -6, x -> x.ask(what, 1));
            refused("14: -6 another what, of the least v", Edges::busy, -6, x -> x.ask(what, 0));
        }
    }

    private static void tableOf15() {
        int[] due = {3, 40, 4, 10, 2, 0};
        for (int what = 0; what < 6; what++) {
            int part = what;
            tells("15: of a TABLE, " + what, Edges::busy, due[what], x -> x.tableOf(3, part));
            for (int t : new int[] {LEAST, -1, 5, 8, MOST}) {
                refused("15: -5 no such table", Edges::busy, -5, x -> x.tableOf(t, part));
            }
        }
        tells("15: the first", Edges::busy, 50, x -> x.tableOf(0, 1));
        tells("15: the last of eight", Edges::full, 17, x -> x.tableOf(7, 1));
        refused("15: -5 no table at all", Edges::fresh, -5, x -> x.tableOf(0, 0));
        refused("15: -5 table 8 of eight", Edges::full, -5, x -> x.tableOf(8, 0));
        tells("15: SERVICE: SKILL and EFFORT of its WAITER", Edges::busy, 6, x -> x.tableOf(0, 5));
        tells("15: the greatest SERVICE", () -> after(ofOne(6, 0, 1, 1, 1), x -> x.becomes(0, 1, 3)), 9,
            x -> x.tableOf(0, 5));
        for (int what : new int[] {LEAST, -1, 6, 7, MOST}) {
            refused("15: -5 another what", Edges::busy, -5, x -> x.tableOf(0, what));
            refused("15: -5 once, of neither", Edges::busy, -5, x -> x.tableOf(9, what));
        }
    }

    private static void waiterOf16() {
        int saved = (7 + 8 + 5 + 4) / 3 + (7 + 38) / 2 + (7 + 8 + 38 + 4) / 3 / 2;
        int[] due = {3, 3, 2, 1, 20, saved, 2};
        for (int what = 0; what < 7; what++) {
            int part = what;
            tells("16: of a WAITER, " + what, Edges::busy, due[what], x -> x.waiterOf(0, part));
            for (int w : new int[] {LEAST, -1, 3, 4, MOST}) {
                refused("16: -5 no such WAITER", Edges::busy, -5, x -> x.waiterOf(w, part));
            }
        }
        tells("16: the last of four", Edges::full, 2, x -> x.waiterOf(3, 6));
        tells("16: no table", () -> withWaiters(1), 0, x -> x.waiterOf(0, 6));
        tells("16: all eight tables", () -> after(full(), HouseEdgesTest::allByOne), 8, x -> x.waiterOf(1, 6));
        tells("16: none of them", () -> after(full(), HouseEdgesTest::allByOne), 0, x -> x.waiterOf(0, 6));
        refused("16: -5 no WAITER at all", Edges::fresh, -5, x -> x.waiterOf(0, 0));
        refused("16: -5 WAITER 4 of four", Edges::full, -5, x -> x.waiterOf(4, 0));
        for (int what : new int[] {LEAST, -1, 7, 8, MOST}) {
            refused("16: -5 another what", Edges::busy, -5, x -> x.waiterOf(0, what));
            refused("16: -5 once, of neither", Edges::busy, -5, x -> x.waiterOf(4, what));
        }
    }

    private static void allByOne(TablesAndTips x) {
        for (int t = 0; t < 8; t++) {
            x.serves(t, 1);
        }
    }
}
