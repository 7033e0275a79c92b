/** The boundary cases of evenings in truth, of draws, of ACTS, of THE IMAGE and of status: promises 38 to 45. */
public final class TruthEdgesTest extends Edges {
    private TruthEdgesTest() {
    }

    public static void main(String[] args) {
        evening38();
        jar38();
        guestsOfNone39();
        guests39();
        guestsOfAllSeeds39();
        shelvesWithGuests39();
        seed40();
        actsThereAreNot41();
        actsThatWrap41();
        actsByKind41();
        trace42();
        image43();
        restore44();
        restoredShelves44();
        whatIsNotInTheImage44();
        status45();
        refusalsCounted45();
        Checks.end("TruthEdgesTest");
    }

    private static void evening38() {
        refused("38: -5 no WAITERS", Edges::fresh, -5, TablesAndTips::evening);
        TablesAndTips x = withWaiters(1);
        does("38: a WAITER without tables", x, 0, TablesAndTips::evening);
        Checks.same("38: SAVES nothing", x.waiterOf(0, 5), 0);
        Checks.same("38: it was an evening", x.status(5), 1);
        TablesAndTips own = giving(1, 99, 0);
        does("38: nothing is left over by OWN", own, 0, TablesAndTips::evening);
        does("38: nor on the next one", own, 0, TablesAndTips::evening);
        Checks.same("38: each WAITER SAVES the SHARE, twice", own.waiterOf(0, 5), 198);
        Checks.same("38: of nothing nothing", own.waiterOf(1, 5), 0);
        Checks.same("38: two evenings", own.status(5), 2);
        TablesAndTips later = after(withWaiters(2), y -> {
            y.table(0, 1, 1, 7, 0);
            y.evening();
            y.serves(0, 1);
            y.evening();
        });
        Checks.same("38: as tables were served then: the first", later.waiterOf(0, 5), 7);
        Checks.same("38: as tables were served then: the second", later.waiterOf(1, 5), 7);
    }

    private static void leftOver(String sentence, int sharing, int due, int... gifts) {
        TablesAndTips x = after(giving(1, gifts), y -> y.ask(0, sharing));
        does("Details: what is left over comes to the JAR: " + sentence, x, due, TablesAndTips::evening);
        Checks.same("38: the JAR", x.status(6), due);
        does("38: the JAR keeps it: " + sentence, x, 2 * due, TablesAndTips::evening);
    }

    private static void jar38() {
        leftOver("POT of 60 for three", 1, 0, 60, 0, 0);
        leftOver("POT of 61 for three", 1, 1, 60, 1, 0);
        leftOver("POT of 62 for three", 1, 2, 60, 1, 1);
        leftOver("POT of 3 for four", 1, 3, 3, 0, 0, 0);
        leftOver("BY POINTS 1 each of 7", 2, 1, 7, 0, 0);
        leftOver("HALF of 1 and 1", 3, 2, 1, 1);
        leftOver("HALF of 2 and 2", 3, 0, 2, 2);
        leftOver("HALF of 3 and 0", 3, 2, 3, 0);
        leftOver("nothing", 3, 0, 0, 0);
        leftOver("OWN of odd ones", 0, 0, 1, 3, 5);
    }

    private static void guestsOfNone39() {
        tells("39: no tables, no DRAWS", Edges::fresh, 0, TablesAndTips::guests);
        tells("39: no tables, no DRAWS, by any SEED", () -> after(withWaiters(4), x -> x.seed(LEAST)), 0,
            TablesAndTips::guests);
    }

    /** SEEDS as the Terms have them, reckoned without wrapping: the lowest 32 bits of a long. */
    private static long nextSeed(long seed) {
        return (seed * 1103515245L + 12345L) & 0xFFFFFFFFL;
    }

    private static void guests39() {
        TablesAndTips x = full();
        int[] below = {7, 99, 6, 25};
        int[] more = {0, 1, 1, 0};
        long seed = 1;
        int bills = 0;
        int[][] due = new int[8][4];
        for (int t = 0; t < 8; t++) {
            for (int part = 0; part < 4; part++) {
                seed = nextSeed(seed);
                due[t][part] = (int) ((seed >> 16) % below[part]) + more[part];
            }
            bills += due[t][1];
        }
        does("39: all BILLS together", x, bills, TablesAndTips::guests);
        for (int t = 0; t < 8; t++) {
            for (int part = 0; part < 4; part++) {
                Checks.same("39: KIND, BILL, PARTY, a, table by table", x.tableOf(t, part), due[t][part]);
            }
            Checks.same("39: the WAITER stays", x.tableOf(t, 4), t % 4);
        }
        Checks.same("39: SEED after 32 DRAWS", x.status(7), (int) seed);
        Checks.same("39: no more tables", x.status(0), 8);
        Checks.same("39: no evening", x.status(5), 0);
    }

    private static void guestsOfAllSeeds39() {
        int[] below = {7, 99, 6, 25};
        int[] more = {0, 1, 1, 0};
        boolean[][] seen = new boolean[4][100];
        boolean upperBit = false;
        for (int first = -600; first < 600; first++) {
            int start = first * 3579545;
            TablesAndTips x = ofOne(0, 0, 1, 1, 0);
            x.seed(start);
            x.guests();
            long seed = start;
            for (int part = 0; part < 4; part++) {
                seed = nextSeed(seed);
                upperBit |= seed >= 1L << 31;
                int due = (int) ((seed >> 16) % below[part]) + more[part];
                Checks.same("Terms: a DRAW by SEED " + start + ", " + part, x.tableOf(0, part), due);
                seen[part][due] = true;
            }
            Checks.same("Terms: SEED, an int, wrapping", x.status(7), (int) seed);
        }
        Checks.holds("Terms: upper 16 bits, no sign: some were above 32767", upperBit);
        for (int part = 0; part < 4; part++) {
            Checks.holds("39: the least was drawn, " + part, seen[part][more[part]]);
            Checks.holds("39: the most was drawn, " + part, seen[part][below[part] - 1 + more[part]]);
        }
        for (int start : new int[] {LEAST, -1, 0, 1, MOST}) {
            TablesAndTips x = after(ofOne(0, 0, 1, 1, 0), y -> y.seed(start));
            long seed = nextSeed(nextSeed(start));
            does("Terms: a DRAW by SEED " + start, x, (seed >> 16) % 99 + 1, TablesAndTips::guests);
        }
    }

    private static void shelvesWithGuests39() {
        TablesAndTips x = busy();
        x.guests();
        int[] due = {100, 101, 102, 103, 1, 4, 100, NONE};
        for (int s = 0; s < 8; s++) {
            Checks.same("39: SHELVES hold what they held", x.holds(s), due[s]);
        }
        Checks.same("39: the new ones of these tables: 1", x.says(4, 0), x.tableOf(1, 3));
        Checks.same("39: the new ones of these tables: 4", x.says(5, 0), x.tableOf(4, 3));
        Checks.holds("39: they are new", x.tableOf(1, 1) != 83 || x.tableOf(4, 1) != 60);
        Checks.same("39: a ROW stays", x.element(0, 3), -4);
    }

    private static void seed40() {
        int was = 1;
        TablesAndTips x = fresh();
        for (int v : new int[] {0, -1, NONE, LEAST, MOST, 7}) {
            does("40: what it was, nothing is refused", x, was, y -> y.seed(v));
            Checks.same("40: SEED becomes v", x.status(7), v);
            was = v;
        }
        TablesAndTips drawn = ofOne(0, 0, 1, 1, 0);
        drawn.guests();
        long seed = nextSeed(nextSeed(nextSeed(nextSeed(1))));
        does("40: what it was after DRAWS", drawn, (int) seed, y -> y.seed(1));
    }

    private static void actsThereAreNot41() {
        for (int t : new int[] {LEAST, -1, 5, 8, MOST}) {
            for (int a = 0; a < 3; a++) {
                int asked = a;
                noAct("41: no such TABLE", y -> y.act(t, asked, 7));
            }
        }
        for (int a : new int[] {LEAST, -1, 3, 4, MOST}) {
            noAct("41: no such act", y -> y.act(0, a, 7));
            noAct("41: neither", y -> y.act(9, a, 7));
        }
        tells("41: no table at all", Edges::fresh, 0, x -> x.act(0, 0, 7));
        does("41: the last of eight", full(), 17, x -> x.act(7, 0, 10));
        TablesAndTips x = full();
        does("41: table 8 of eight", x, 0, y -> y.act(8, 0, 10));
    }

    /** 0, no TRACE then, and nothing else is changed. */
    private static void noAct(String sentence, Call act) {
        TablesAndTips x = busy();
        does(sentence + ": 0, nothing is refused", x, 0, act);
        Checks.same(sentence + ": no TRACE then", x.trace(0), NONE);
        Checks.same(sentence + ": no bodies then", x.status(8), 0);
        does(sentence + ": the next act", x, busy().act(2, 2, 10), y -> y.act(2, 2, 10));
        alike(sentence, x, busy());
    }

    private static void acted(String sentence, TablesAndTips x, int table, int act, int with, int due) {
        does("41: wrapping: " + sentence, x, due, y -> y.act(table, act, with));
    }

    /** Tables 0 to 6 of all KINDS, whose a is 1. */
    private static TablesAndTips allKinds(int a) {
        TablesAndTips x = withWaiters(1);
        for (int kind = 0; kind < 7; kind++) {
            x.table(kind, 1, 1, a, 0);
        }
        return x;
    }

    private static void actsThatWrap41() {
        TablesAndTips x = allKinds(1);
        acted("x + m, m 0", x, 0, 0, MOST, MOST);
        acted("serves(x) * 2", x, 0, 1, MOST, -2);
        acted("serves(x) * 2, of the least", x, 0, 1, LEAST, 0);
        acted("serves(x - k)", x, 0, 2, LEAST, MOST);
        acted("super.serves(x) + k", x, 1, 0, MOST, LEAST + 1);
        acted("super.serves(x) + k, up to the greatest", x, 1, 0, MOST - 2, MOST);
        acted("super.serves(x) + k, one more", x, 1, 0, MOST - 1, LEAST);
        acted("super.gives(x) * 3", x, 2, 1, 1 << 30, (1 << 31) + 18);
        acted("super.gives(x + 1)", x, 3, 1, MOST, 8);
        acted("super.serves(x) - m", x, 6, 0, LEAST, LEAST + 1);
        acted("super.serves(x) - m, of the greatest", x, 6, 0, MOST, LEAST);
        acted("super.serves(x) * 2", x, 5, 0, MOST, 10);
        acted("super.gives(x - k)", x, 5, 1, LEAST, 20);
        acted("-super.stays(x)", x, 6, 2, MOST, -(2 ^ MOST));
        acted("super.stays(x) ^ 5", x, 4, 2, LEAST, 8 ^ LEAST + 3 ^ 5);
        TablesAndTips y = allKinds(99);
        acted("the greatest k", y, 0, 2, LEAST + 98, LEAST + 98 << 1 ^ MOST);
        acted("the greatest k and m", y, 6, 0, MOST, LEAST + 98);
        TablesAndTips z = allKinds(0);
        acted("the least k", z, 1, 0, MOST, LEAST);
    }

    /** In an act these bodies ran, and those, and so on. */
    private static void ran(int kind, int act, int[]... bodies) {
        TablesAndTips x = allKinds(1);
        x.act(kind, act, 5);
        int i = 0;
        for (int[] some : bodies) {
            for (int body : some) {
                Checks.same("Terms: in the order in which they began, of " + kind + ", " + act, x.trace(i), body);
                i++;
            }
        }
        Checks.same("Terms: the body of the GUESTS' KIND, or of the next KIND above that has one, " + kind,
            x.status(8), i);
    }

    private static void actsByKind41() {
        int[][] bodies = {{10}, {20, 10}, {20, 10}, {20, 10}, {10}, {70, 20, 10}, {51, 20, 10}};
        int[][] giving = {{11}, {11}, {30, 11}, {40, 11}, {11}, {71, 11}, {40, 11}};
        int[][] staying = {{12}, {12}, {12}, {12}, {60, 12}, {12}, {50, 12}};
        for (int kind = 0; kind < 7; kind++) {
            ran(kind, 0, bodies[kind]);
            ran(kind, 1, giving[kind], bodies[kind]);
            ran(kind, 2, staying[kind], giving[kind], bodies[kind], bodies[kind]);
        }
        TablesAndTips x = allKinds(1);
        x.guests();
        int kind = x.tableOf(0, 0);
        x.act(0, 0, 5);
        Checks.same("41: of the GUESTS that are there now", x.status(8), bodies[kind].length);
    }

    private static void trace42() {
        TablesAndTips x = allKinds(1);
        int[] longest = {50, 12, 40, 11, 51, 20, 10, 51, 20, 10};
        x.act(6, 2, 10);
        for (int i = 0; i < longest.length; i++) {
            int body = i;
            does("42: THE TRACE's i-th body", x, longest[i], y -> y.trace(body));
        }
        for (int i : new int[] {LEAST, -1, 10, 11, 19, 20, 21, MOST}) {
            does("42: NONE: none such", x, NONE, y -> y.trace(i));
        }
        x.act(0, 0, 10);
        does("42: of the latest act()", x, 10, y -> y.trace(0));
        does("42: none of the one ahead", x, NONE, y -> y.trace(1));
        Checks.same("45: bodies that ran in the latest act()", x.status(8), 1);
        tells("42: none yet", Edges::full, NONE, y -> y.trace(0));
        tells("42: asked of what there is", Edges::busy, 50, y -> y.trace(0));
    }

    private static void image43() {
        does("43: how many TABLES: none", fresh(), 0, TablesAndTips::image);
        does("43: how many TABLES", busy(), 5, TablesAndTips::image);
        does("43: how many TABLES: eight", full(), 8, TablesAndTips::image);
        alike("43: nothing but THE IMAGE is changed", after(full(), x -> {
            x.image();
            x.restore();
        }), after(full(), TablesAndTips::image));
    }

    private static void changeAll(TablesAndTips x) {
        x.waiter(1, 1, 1);
        x.table(0, 1, 1, 1, 0);
        for (int what = 0; what < 5; what++) {
            x.becomes(0, what, 2);
            x.ask(what, 1);
        }
        x.serves(0, 2);
        x.evening();
        x.guests();
    }

    private static void restore44() {
        refused("44: -6 there is none", Edges::fresh, -6, TablesAndTips::restore);
        refused("44: -6 there is none, whatever there is", Edges::full, -6, TablesAndTips::restore);
        TablesAndTips x = busy();
        x.image();
        changeAll(x);
        does("44: how many TABLES", x, 5, TablesAndTips::restore);
        alike("44: all is as THE IMAGE has it", x, after(busy(), TablesAndTips::image));
        TablesAndTips twice = after(busy(), TablesAndTips::image);
        changeAll(twice);
        twice.restore();
        changeAll(twice);
        does("44: as often as it is asked", twice, 5, TablesAndTips::restore);
        alike("44: all is as THE IMAGE has it, again", twice, after(busy(), TablesAndTips::image));
        TablesAndTips empty = fresh();
        empty.image();
        empty.waiter(1, 1, 1);
        empty.table(0, 1, 1, 1, 0);
        does("44: no TABLES", empty, 0, TablesAndTips::restore);
        alike("44: nothing at all", empty, after(fresh(), TablesAndTips::image));
        TablesAndTips newer = after(busy(), TablesAndTips::image);
        newer.ask(0, 0);
        does("43: a newer one", newer, 5, TablesAndTips::image);
        newer.ask(0, 2);
        does("44: the newer one", newer, 5, TablesAndTips::restore);
        Checks.same("44: as the newer one has it", newer.status(3), 0);
    }

    private static void restoredShelves44() {
        TablesAndTips x = withWaiters(1);
        for (int t = 0; t < 8; t++) {
            x.table(0, 1, 1, t, 0);
            if (t == 3) {
                x.image();
            }
            x.show(t, t);
        }
        does("44: four TABLES", x, 4, TablesAndTips::restore);
        for (int s = 0; s < 8; s++) {
            Checks.same("44: SHELVES with GUESTS hold those of these tables, or NOTHING", x.holds(s), s < 4 ? s : NONE);
        }
        x.table(0, 1, 1, 50, 0);
        Checks.same("44: they hold NOTHING, though there is such a table again", x.holds(4), NONE);
        TablesAndTips none = withWaiters(1);
        none.image();
        for (int t = 0; t < 8; t++) {
            none.table(0, 1, 1, t, 0);
            none.show(t, t);
        }
        does("44: no TABLES", none, 0, TablesAndTips::restore);
        for (int s = 0; s < 8; s++) {
            Checks.same("44: NOTHING, where there are no tables", none.holds(s), NONE);
        }
        TablesAndTips guests = ofOne(0, 0, 1, 1, 33);
        guests.show(0, 0);
        guests.image();
        guests.guests();
        guests.restore();
        Checks.same("44: the GUESTS of these tables", guests.says(0, 0), 33);
    }

    private static void whatIsNotInTheImage44() {
        TablesAndTips x = busy();
        x.image();
        x.row(0, 3, 1);
        x.set(0, 0, 99);
        x.show(1, 2);
        x.show(4, NONE);
        text(x, 6, "added 1;");
        x.house(6);
        x.act(0, 0, 1);
        x.would(-1);
        int[] ahead = refusalsOf(x);
        x.restore();
        Checks.same("44: a ROW stays as it is now", x.element(0, 0), 99);
        Checks.same("44: its SORT too", x.holds(0), 103);
        Checks.same("44: GUESTS where there was a ROW", x.holds(1), 2);
        Checks.same("44: NOTHING where there were GUESTS", x.holds(4), NONE);
        Checks.same("44: the FAULT stays", x.fault(), 8);
        Checks.same("44: THE TRACE stays", x.trace(0), 10);
        Checks.same("44: its bodies stay", x.status(8), 1);
        int[] now = refusalsOf(x);
        for (int r = 0; r < 7; r++) {
            Checks.same("44: REFUSALS stay", now[r], ahead[r]);
        }
    }

    private static void status45() {
        int left = 24 - 3 * 8 + 57 - (22 + 9) - (4 + 9) - (2 + 9);
        int[] due = {5, 3, 50 + 83 + 90 + 40 + 60, 3, 10, 2, left, 78, 10};
        for (int what = 0; what < due.length; what++) {
            int asked = what;
            tells("45: status " + what, Edges::busy, due[what], x -> x.status(asked));
        }
        for (int what : new int[] {LEAST, -11, -1, 9, 10, 18, 19, MOST}) {
            tells("45: NONE for another what", Edges::busy, NONE, x -> x.status(what));
        }
        tells("45: BILLS of all eight", Edges::full, 80 + 28, x -> x.status(2));
    }

    private static void refuse(TablesAndTips x, int refusal) {
        switch (refusal) {
            case -1:
                x.would(-1);
                break;
            case -2:
                x.house(4);
                break;
            case -3:
                x.house(7);
                break;
            case -4:
                x.row(0, 0, -1);
                break;
            case -5:
                x.tableOf(9, 0);
                break;
            case -6:
                x.ask(9, 0);
                break;
            default:
                x.row(0, 0, 161);
                break;
        }
    }

    private static void refusalsCounted45() {
        TablesAndTips x = busy();
        int[] due = refusalsOf(x);
        for (int times = 0; times < 3; times++) {
            for (int r = -1; r >= -7; r--) {
                refuse(x, r);
                due[-1 - r]++;
                int[] now = refusalsOf(x);
                for (int i = 0; i < 7; i++) {
                    Checks.same("45: 11 to 17: REFUSALS -1 to -7", now[i], due[i]);
                }
            }
        }
    }
}
