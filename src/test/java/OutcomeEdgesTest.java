/** The boundary cases of what comes of it: promises 24 to 37. Each call that tells something changes nothing. */
public final class OutcomeEdgesTest extends Edges {
    /** Numbers that are no WAITER's of three, and not NONE. */
    private static final int[] NO_WAITER = {LEAST, -2, 3, 4, MOST};

    private OutcomeEdgesTest() {
    }

    public static void main(String[] args) {
        reply24();
        replyByOthers24();
        rest25();
        restRefused25();
        rests26();
        best27();
        points28();
        pointsRefused28();
        leavers29();
        most30();
        mostRooms30();
        even31();
        placesRefused();
        turns32();
        luck33();
        worth34();
        raise35();
        judge36();
        judgeRefused36();
        told37();
        toldRefused37();
        askedAgain();
        Checks.end("OutcomeEdgesTest");
    }

    /** One WAITER of SKILL 3 with one table; the other's grudge ends at SERVICE 5, that is at EFFORT 2. */
    private static TablesAndTips paid(int kind, int pains) {
        TablesAndTips x = new TablesAndTips();
        x.waiter(3, pains, 0);
        x.table(kind, 999, 1, 2, 0);
        return x;
    }

    private static void reply24() {
        int[] byService = {3, 0, 0};
        for (int pains = 0; pains < 3; pains++) {
            int p = pains;
            tells("24: each EFFORT gives 1 and costs " + p + ", of several the least", () -> paid(3, p), byService[p],
                x -> x.reply(0));
            tells("24: whatever the EFFORT is now", () -> after(paid(3, p), x -> x.becomes(0, 1, 3)), byService[p],
                x -> x.reply(0));
        }
        int[] byGrudge = {3, 2, 2, 0, 0};
        for (int pains = 0; pains < 5; pains++) {
            int p = pains;
            tells("24: each EFFORT gives 3 up to SERVICE 5, then 1, and costs " + p, () -> paid(6, p), byGrudge[p],
                x -> x.reply(0));
        }
        tells("24: the grudge ends at EFFORT 1", () -> after(paid(6, 2), x -> x.becomes(0, 0, 4)), 1, x -> x.reply(0));
        tells("24: EFFORT 3 at most, though another's would be more for both", () -> after(potOfTwo(0, 0), x -> {
            x.becomes(1, 2, 99);
            x.table(3, 1, 9, 0, 0);
        }), 0, x -> x.reply(1));
        tells("24: of who has no table the least", () -> after(withWaiters(2), x -> x.becomes(1, 1, 3)), 0,
            x -> x.reply(1));
        tells("24: the last of four", Edges::full, 0, x -> x.reply(3));
        for (int w : NO_WAITER) {
            refused("24: -1", Edges::busy, -1, x -> x.reply(w));
        }
        refused("24: -1 NONE is no WAITER", Edges::busy, -1, x -> x.reply(NONE));
        refused("24: -1 WAITER 4 of four", Edges::full, -1, x -> x.reply(4));
        refused("24: -1 no WAITER at all", Edges::fresh, -1, x -> x.reply(0));
    }

    /** Two WAITERS in one pot, whose EFFORTS give 1 each: what is given is halved and cut. */
    private static TablesAndTips potOfTwo(int first, int second) {
        TablesAndTips x = withWaiters(2);
        x.table(3, 1, 1, 0, 0);
        x.table(3, 1, 1, 0, 1);
        x.ask(0, 1);
        x.becomes(0, 1, first);
        x.becomes(1, 1, second);
        return x;
    }

    private static void replyByOthers24() {
        int[] due = {2, 3, 2, 3};
        for (int e = 0; e < 4; e++) {
            int other = e;
            tells("24: all others as they are, " + e, () -> potOfTwo(0, other), due[e], x -> x.reply(0));
            tells("24: all others as they are, ahead of it, " + e, () -> potOfTwo(other, 0), due[e], x -> x.reply(1));
        }
        Made shown = () -> {
            TablesAndTips x = new TablesAndTips();
            x.waiter(0, 2, 0);
            x.table(3, 1, 3, 0, 0);
            x.table(5, 1, 1, 0, 0);
            return x;
        };
        tells("Details: REPLY looks at what all tables GIVE then", shown, 3, x -> x.reply(0));
    }

    /** By 6 and 7 of 13 POINTS each cut SHARE grows with every other EFFORT: 2 3, 3 2, 2 3 and so on. */
    private static TablesAndTips restless(int first, int second) {
        TablesAndTips x = new TablesAndTips();
        x.waiter(2, 0, 0);
        x.waiter(1, 0, 0);
        x.becomes(0, 3, 6);
        x.becomes(1, 3, 7);
        x.table(3, 1, 1, 0, 1);
        x.table(3, 1, 1, 0, 0);
        x.ask(0, 2);
        x.becomes(0, 1, first);
        x.becomes(1, 1, second);
        return x;
    }

    private static void rests(String sentence, Made made, int rounds, int... efforts) {
        tells(sentence, made, rounds, x -> x.rest(NONE));
        for (int w = 0; w < efforts.length; w++) {
            int asked = w;
            tells(sentence + ": the EFFORT then of " + w, made, efforts[w], x -> x.rest(asked));
        }
    }

    private static void rest25() {
        rests("Details: REST is 0 if nobody changes at first", () -> potOfTwo(2, 2), 0, 2, 2);
        rests("Details: REST is 0 if nobody changes at first", () -> potOfTwo(3, 3), 0, 3, 3);
        rests("25: all WAITERS by numbers: 2 0, 2 2", () -> potOfTwo(1, 0), 1, 2, 2);
        rests("25: all WAITERS by numbers: 3 0, 3 3", () -> potOfTwo(0, 1), 1, 3, 3);
        rests("25: only the last one changes", () -> potOfTwo(2, 0), 1, 2, 2);
        rests("25: only the first one changes", () -> potOfTwo(0, 3), 1, 3, 3);
        rests("Details: 30 ROUNDS that changed are NONE", () -> restless(2, 3), NONE, 2, 3);
        rests("Details: 30 ROUNDS that changed are NONE", () -> restless(3, 2), NONE, 3, 2);
        rests("25: who has no table gives no EFFORT", () -> after(withWaiters(1), x -> x.becomes(0, 1, 3)), 1, 0);
        rests("25: who gives none has REST", () -> withWaiters(4), 0, 0, 0, 0, 0);
        Made late = () -> after(restless(0, 1), x -> {
            x.becomes(0, 0, 0);
            x.becomes(1, 0, 2);
            x.becomes(0, 3, 2);
            x.becomes(1, 3, 3);
        });
        rests("25: 0 1, then 2 3, 3 2, 1 2: three ROUNDS", late, 3, 1, 2);
        rests("25: without WAITERS nobody changes", Edges::fresh, 0);
    }

    private static void restRefused25() {
        for (int w : NO_WAITER) {
            refusedNear("25: -11", Edges::busy, -1, x -> x.rest(w));
        }
        refusedNear("25: -11 WAITER 4 of four", Edges::full, -1, x -> x.rest(4));
        refusedNear("25: -11 no WAITER at all", Edges::fresh, -1, x -> x.rest(0));
        refusedNear("25: -11 of who never rest", () -> restless(2, 3), -1, x -> x.rest(2));
    }

    /** That none RESTS can't be (NOTES.md tells why), so that -5 can't be reached. */
    private static void rests26() {
        tells("Details: without WAITERS the empty row is one that RESTS", Edges::fresh, 1, x -> x.rests(NONE));
        tells("26: two rows", () -> potOfTwo(0, 0), 2, x -> x.rests(NONE));
        tells("26: the first (the least row) of two", () -> potOfTwo(3, 3), 2, x -> x.rests(0));
        tells("26: the first (the least row) of two", () -> potOfTwo(3, 3), 2, x -> x.rests(1));
        for (int n = 1; n < 5; n++) {
            int count = n;
            tells("26: all rows, as no EFFORT makes more", () -> withWaiters(count), 1 << 2 * n, x -> x.rests(NONE));
            tells("26: the least of all rows", () -> after(withWaiters(count), x -> x.becomes(0, 1, 3)), 0,
                x -> x.rests(count - 1));
        }
        tells("26: as much is not more", () -> paid(3, 1), 4, x -> x.rests(NONE));
        tells("26: one row", () -> paid(3, 0), 1, x -> x.rests(NONE));
        tells("26: the last one", () -> paid(3, 0), 3, x -> x.rests(0));
        tells("26: the first one", () -> paid(3, 2), 0, x -> x.rests(0));
        for (int w : NO_WAITER) {
            refused("26: -1", Edges::busy, -1, x -> x.rests(w));
        }
        refused("26: -1 WAITER 4 of four", Edges::full, -1, x -> x.rests(4));
        refused("26: -1 no WAITER at all", Edges::fresh, -1, x -> x.rests(0));
    }

    private static void best27() {
        tells("27: the greatest sum", () -> potOfTwo(0, 0), 3, x -> x.best(0));
        tells("27: of several, 1 3 and 3 3, the first", () -> after(potOfTwo(3, 3), x -> x.becomes(0, 2, 1)), 1,
            x -> x.best(0));
        tells("27: of several, 3 1 and 3 3, the first", () -> after(potOfTwo(3, 3), x -> x.becomes(1, 2, 1)), 1,
            x -> x.best(1));
        Made together = () -> {
            TablesAndTips x = new TablesAndTips();
            for (int w = 0; w < 2; w++) {
                x.waiter(0, 2, 0);
                x.table(3, 1, 3, 0, w);
            }
            x.ask(0, 1);
            return x;
        };
        tells("27: the sum, though nobody's REPLY goes there", together, 3, x -> x.best(0));
        tells("27: whose REPLY is another", together, 0, x -> x.reply(0));
        for (int w = 0; w < 4; w++) {
            int asked = w;
            tells("27: where all is the same, the first", () -> after(full(), x -> x.becomes(asked, 1, 3)), 0,
                x -> x.best(asked));
        }
        tells("27: the grudge ends at EFFORT 1", () -> after(paid(6, 2), x -> x.becomes(0, 0, 4)), 1, x -> x.best(0));
        tells("27: costs as much as it gives: the first", () -> after(paid(3, 1), x -> x.becomes(0, 1, 2)), 0,
            x -> x.best(0));
        tells("27: a sum below 0 is not the greatest", () -> after(paid(3, 99), x -> x.becomes(0, 1, 2)), 0,
            x -> x.best(0));
        for (int w : NO_WAITER) {
            refused("27: -1", Edges::busy, -1, x -> x.best(w));
        }
        refused("27: -1 NONE is no WAITER", Edges::busy, -1, x -> x.best(NONE));
        refused("27: -1 WAITER 4 of four", Edges::full, -1, x -> x.best(4));
        refused("27: -1 no WAITER at all", Edges::fresh, -1, x -> x.best(0));
    }

    /** 100 is given to two who want so much. */
    private static TablesAndTips wanting(int first, int second) {
        TablesAndTips x = giving(1, 60, 40);
        x.becomes(0, 4, first);
        x.becomes(1, 4, second);
        return x;
    }

    private static void points28() {
        int[][] cases = {{0, 0, 1, 1}, {50, 50, 1, 1}, {50, 0, 1, 1}, {0, 51, 1, 2}, {33, 66, 1, 2}, {0, 67, 1, 3},
            {25, 75, 1, 3}, {51, 0, 2, 1}, {66, 33, 2, 1}, {34, 60, 2, 3}, {40, 60, 2, 3}, {67, 0, 3, 1},
            {75, 25, 3, 1}, {60, 40, 3, 2}};
        for (int[] c : cases) {
            for (int sharing = 0; sharing < 4; sharing++) {
                int asked = sharing;
                Made made = () -> after(wanting(c[0], c[1]), x -> {
                    x.ask(0, asked);
                    x.becomes(0, 3, 9);
                });
                String sentence = "28: the first row of POINTS; SHARING counts as 2 whatever it is: " + c[0] + " " + c[1];
                tells(sentence, made, c[2], x -> x.points(0));
                tells(sentence, made, c[3], x -> x.points(1));
            }
        }
        tells("28: who is alone has all", () -> after(giving(1, 99), x -> x.becomes(0, 4, 99)), 1, x -> x.points(0));
        tells("28: none wants what is not given", () -> withWaiters(4), 1, x -> x.points(3));
    }

    private static void pointsRefused28() {
        int[][] none = {{76, 0}, {0, 76}, {75, 26}, {51, 50}, {999, 999}};
        for (int[] c : none) {
            for (int w = 0; w < 2; w++) {
                int asked = w;
                refused("28: -5 no such row (POINTS 1 to 3 each): " + c[0] + " " + c[1], () -> wanting(c[0], c[1]), -5,
                    x -> x.points(asked));
            }
        }
        refused("28: -5 of one who wants more than all", () -> after(giving(1, 99), x -> x.becomes(0, 4, 100)), -5,
            x -> x.points(0));
        for (int w : NO_WAITER) {
            refused("28: -1", Edges::busy, -1, x -> x.points(w));
        }
        refused("28: -1 NONE is no WAITER", Edges::busy, -1, x -> x.points(NONE));
        refused("28: -1 ahead of -5", () -> wanting(999, 999), -1, x -> x.points(2));
        refused("28: -1 WAITER 4 of four", Edges::full, -1, x -> x.points(4));
        refused("28: -1 no WAITER at all", Edges::fresh, -1, x -> x.points(0));
    }

    private static void leavers29() {
        tells("29: nobody at all", Edges::fresh, 0, TablesAndTips::leavers);
        tells("29: WANT 0", () -> withWaiters(4), 0, TablesAndTips::leavers);
        tells("29: as much as WANT is not below", () -> wanting(60, 40), 0, TablesAndTips::leavers);
        tells("29: one below", () -> wanting(61, 40), 1, TablesAndTips::leavers);
        tells("29: the other", () -> wanting(60, 41), 2, TablesAndTips::leavers);
        tells("29: both", () -> wanting(61, 41), 3, TablesAndTips::leavers);
        tells("29: by the SHARE, not by OWN", () -> after(wanting(60, 41), x -> x.ask(0, 1)), 1,
            TablesAndTips::leavers);
        for (int w = 0; w < 4; w++) {
            int asked = w;
            tells("29: bits, of " + w, () -> after(withWaiters(4), x -> x.becomes(asked, 4, 1)), 1 << w,
                TablesAndTips::leavers);
        }
        tells("29: all four", () -> after(withWaiters(4), x -> {
            for (int w = 0; w < 4; w++) {
                x.becomes(w, 4, 1);
            }
        }), 15, TablesAndTips::leavers);
    }

    /** WAITERS of SKILL 0 and 6, as many tables that give as they are served. */
    private static TablesAndTips twoSkills(int tables) {
        TablesAndTips x = new TablesAndTips();
        x.waiter(0, 0, 0);
        x.waiter(6, 0, 0);
        for (int t = 0; t < tables; t++) {
            x.table(3, 1, 1, 0, 0);
        }
        return x;
    }

    private static void row(String sentence, Made made, boolean even, int k, int... due) {
        for (int t = 0; t < due.length; t++) {
            int table = t;
            tells(sentence + " [table " + t + "]", made, due[t], x -> even ? x.even(k, table) : x.most(k, table));
        }
    }

    private static void most30() {
        tells("Details: MOST without tables is 0", Edges::fresh, 0, x -> x.most(1, NONE));
        tells("Details: MOST without tables is 0", () -> withWaiters(4), 0, x -> x.most(8, NONE));
        tells("30: all by the better one", () -> twoSkills(3), 18, x -> x.most(3, NONE));
        row("30: all by the better one", () -> twoSkills(3), false, 3, 1, 1, 1);
        tells("30: no one more than k tables", () -> twoSkills(3), 12, x -> x.most(2, NONE));
        row("30: of several the first row (by tables)", () -> twoSkills(3), false, 2, 0, 1, 1);
        tells("30: all eight by one", () -> twoSkills(8), 48, x -> x.most(8, NONE));
        row("30: all eight by one", () -> twoSkills(8), false, 8, 1, 1, 1, 1, 1, 1, 1, 1);
        tells("30: but for one", () -> twoSkills(8), 42, x -> x.most(7, NONE));
        row("30: the first of several that give nothing", () -> after(withWaiters(2), x -> {
            x.table(0, 1, 1, 0, 1);
            x.table(0, 1, 1, 0, 1);
        }), false, 1, 0, 1);
        tells("30: nothing is given together", () -> ofOne(0, 0, 1, 1, 0), 0, x -> x.most(1, NONE));
        Made shown = () -> {
            TablesAndTips x = twoSkills(1);
            x.table(5, 1, 1, 0, 0);
            x.table(3, 1, 1, 0, 0);
            return x;
        };
        tells("30: if there is none ahead, CUSTOM's of 0", () -> ofOne(6, 5, 1, 9, 0), 0, x -> x.most(1, NONE));
        tells("31: if there is none ahead, CUSTOM's of 0", () -> after(ofOne(6, 5, 1, 9, 0),
            x -> x.waiter(0, 0, 0)), 0, x -> x.even(1, NONE));
        tells("30: the first WAITER at the first table, the last row", () -> after(twoSkills(2), x -> {
            x.becomes(0, 0, 6);
            x.becomes(1, 0, 0);
            x.becomes(0, 1, 3);
        }), 9, x -> x.most(1, NONE));
        tells("30: the last WAITER at the first table, the last row", () -> after(twoSkills(1), x -> {
            x.table(0, 1, 1, 0, 0);
        }), 6, x -> x.most(1, NONE));
        tells("30: what the one ahead GIVES goes on", shown, 18, x -> x.most(2, NONE));
        row("30: what the one ahead GIVES goes on", shown, false, 2, 1, 0, 1);
    }

    private static void mostRooms30() {
        for (int k = 1; k < 9; k++) {
            int asked = k;
            tells("30: k 1 to 8", () -> giving(1, 3, 4, 5, 6), 18, x -> x.most(asked, NONE));
            tells("31: k 1 to 8", () -> giving(1, 3), 0, x -> x.even(asked, NONE));
        }
        tells("30: as many tables as may be", Edges::full, 28, x -> x.most(2, NONE));
        row("30: the first row of as many as may be", Edges::full, false, 2, 0, 0, 1, 1, 2, 2, 3, 3);
        refused("30: -5 one more than may be", () -> after(giving(1, 1, 1, 1, 1), x -> x.table(0, 1, 1, 1, 0)), -5,
            x -> x.most(1, NONE));
        refused("30: -5 for a TABLE too", Edges::full, -5, x -> x.most(1, 0));
        refused("30: -5 of one WAITER", () -> after(giving(1, 1), x -> x.table(0, 1, 1, 1, 0)), -5,
            x -> x.most(1, NONE));
        tells("31: as many tables as may be", Edges::full, 0, x -> x.even(2, NONE));
        refused("31: -5 one more than may be", () -> after(giving(1, 1, 1, 1, 1), x -> x.table(0, 1, 1, 1, 0)), -5,
            x -> x.even(1, NONE));
        refused("31: -5 for a TABLE too", Edges::full, -5, x -> x.even(1, 7));
    }

    private static void even31() {
        Made fiveThreeTwo = () -> after(giving(1, 5, 3), x -> x.table(0, 1, 1, 2, 0));
        tells("31: the least difference", fiveThreeTwo, 0, x -> x.even(2, NONE));
        row("31: of several the first row (by tables)", fiveThreeTwo, true, 2, 0, 1, 1);
        Made oneThenNone = () -> after(withWaiters(2), x -> {
            x.becomes(0, 0, 1);
            x.table(3, 1, 1, 0, 0);
            x.table(0, 1, 1, 0, 0);
        });
        tells("31: a difference of 0 after one of 1", oneThenNone, 0, x -> x.even(2, NONE));
        row("31: a difference of 0 after one of 1", oneThenNone, true, 2, 1, 0);
        Made lateNone = () -> after(giving(1, 3, 1), x -> {
            x.table(0, 1, 1, 1, 0);
            x.table(0, 1, 1, 1, 0);
        });
        tells("31: a difference of 0 after one of 2", lateNone, 0, x -> x.even(3, NONE));
        row("31: a difference of 0 after one of 2", lateNone, true, 3, 0, 1, 1, 1);
        Made twoOnly = () -> after(withWaiters(2), x -> {
            x.table(0, 1, 1, 5, 1);
            x.table(0, 1, 1, 5, 1);
            x.table(0, 1, 1, 5, 1);
            x.table(0, 1, 1, 5, 1);
        });
        row("31: of several the first row (by tables)", twoOnly, true, 2, 0, 0, 1, 1);
        tells("Details: EVEN counts WAITERS without tables as 0", () -> after(giving(1, 9), x -> x.waiter(0, 0, 0)), 9,
            x -> x.even(8, NONE));
        tells("Details: EVEN counts WAITERS without tables as 0", () -> after(giving(1, 9, 9), x -> x.waiter(0, 0, 0)),
            9, x -> x.even(1, NONE));
        row("31: though one has none", () -> after(giving(1, 9, 9), x -> x.waiter(0, 0, 0)), true, 1, 0, 1);
        tells("31: no one more than k tables", () -> after(giving(1, 9, 1), x -> {
            x.table(0, 1, 1, 1, 0);
            x.table(0, 1, 1, 1, 0);
        }), 8, x -> x.even(2, NONE));
        tells("31: one WAITER differs from nobody", () -> giving(1, 9), 0, x -> x.even(1, NONE));
        tells("31: WAITERS without tables at all", () -> withWaiters(4), 0, x -> x.even(1, NONE));
        tells("31: without WAITERS (read as 0)", Edges::fresh, 0, x -> x.even(1, NONE));
        tells("31: the last table", Edges::full, 0, x -> x.even(3, NONE));
        Made gifts = () -> after(giving(1, 0, 0), x -> x.table(0, 1, 1, 0, 0));
        tells("31: nothing is given", gifts, 0, x -> x.even(3, NONE));
        row("31: nothing is given: the first row", gifts, true, 3, 0, 0, 0);
    }

    private static void placesRefused() {
        for (int k : new int[] {LEAST, -1, 0, 9, 10, MOST}) {
            refused("30: -6 k", Edges::busy, -6, x -> x.most(k, NONE));
            refused("31: -6 k", Edges::busy, -6, x -> x.even(k, NONE));
            refused("30: -6 k for a TABLE", Edges::busy, -6, x -> x.most(k, 0));
            refused("31: -6 k for a TABLE", Edges::busy, -6, x -> x.even(k, 4));
            refused("30: -6 k without tables", Edges::fresh, -6, x -> x.most(k, NONE));
            refused("31: -6 k without tables", Edges::fresh, -6, x -> x.even(k, NONE));
            refused("30: -1 ahead of -6", Edges::busy, -1, x -> x.most(k, 5));
            refused("31: -1 ahead of -6", Edges::busy, -1, x -> x.even(k, 5));
        }
        refused("30: -6 k ahead of -5", Edges::full, -6, x -> x.most(0, NONE));
        refused("31: -6 k ahead of -5", Edges::full, -6, x -> x.even(0, NONE));
        for (int t : new int[] {LEAST, -2, 5, 6, 8, MOST}) {
            refused("30: -1", Edges::busy, -1, x -> x.most(8, t));
            refused("31: -1", Edges::busy, -1, x -> x.even(8, t));
        }
        refused("30: -1 ahead of -5", Edges::full, -1, x -> x.most(1, 8));
        refused("31: -1 ahead of -5", Edges::full, -1, x -> x.even(1, 8));
        refused("30: -1 no TABLE at all", () -> withWaiters(1), -1, x -> x.most(1, 0));
        refused("31: -1 no TABLE at all", () -> withWaiters(1), -1, x -> x.even(1, 0));
    }

    /** Three WAITERS, one table, which gives 7 and is the last one's. */
    private static TablesAndTips byTheLast() {
        return after(withWaiters(3), x -> x.table(0, 1, 1, 7, 2));
    }

    private static void turns32() {
        int[] first = {0, 0, 1, 1, 1, 2, 2};
        int[] last = {0, 1, 1, 1, 2, 2, 2};
        for (int n = 0; n < 7; n++) {
            int evenings = n;
            tells("32: by number WAITER and e, modulo how many there are: 0 over " + n, OutcomeEdgesTest::byTheLast,
                7 * first[n], x -> x.turns(0, evenings));
            tells("32: by number WAITER and e, modulo how many there are: 2 over " + n, OutcomeEdgesTest::byTheLast,
                7 * last[n], x -> x.turns(2, evenings));
        }
        tells("32: 30 evenings", OutcomeEdgesTest::byTheLast, 70, x -> x.turns(1, 30));
        tells("32: 29 evenings", OutcomeEdgesTest::byTheLast, 63, x -> x.turns(1, 29));
        tells("32: one WAITER on all of 30 evenings", () -> giving(1, 99), 2970, x -> x.turns(0, 30));
        tells("32: no table", () -> withWaiters(1), 0, x -> x.turns(0, 30));
        tells("32: no evening", Edges::full, 0, x -> x.turns(3, 0));
        tells("32: a WAITER's tables together", Edges::full, 3 + 7, x -> x.turns(3, 1));
        tells("Details: TURNS go by the SKILL, EFFORT of who serves then",
            () -> after(twoSkills(1), x -> x.becomes(1, 1, 3)), 9, x -> x.turns(1, 2));
        tells("Details: TURNS go by the SKILL, EFFORT of who serves then: the other one",
            () -> after(twoSkills(1), x -> x.becomes(1, 1, 3)), 0, x -> x.turns(0, 2));
        for (int n : new int[] {LEAST, -1, 31, 32, MOST}) {
            refused("32: -6", Edges::busy, -6, x -> x.turns(0, n));
            refused("32: -1 ahead of -6", Edges::busy, -1, x -> x.turns(3, n));
        }
        for (int w : NO_WAITER) {
            refused("32: -1", Edges::busy, -1, x -> x.turns(w, 1));
        }
        refused("32: -1 NONE is no WAITER", Edges::busy, -1, x -> x.turns(NONE, 1));
        refused("32: -1 WAITER 4 of four", Edges::full, -1, x -> x.turns(4, 1));
        refused("32: -1 no WAITER at all", Edges::fresh, -1, x -> x.turns(0, 0));
    }

    private static void luck33() {
        tells("33: who is alone has none", () -> giving(1, 99), 0, x -> x.luck(0));
        tells("33: without tables", () -> withWaiters(4), 0, x -> x.luck(3));
        tells("33: how many WAITERS times OWN, less TURNS", OutcomeEdgesTest::byTheLast, 14, x -> x.luck(2));
        tells("33: may be below 0", OutcomeEdgesTest::byTheLast, -7, x -> x.luck(0));
        tells("33: just 0", () -> giving(1, 5, 5, 5, 5), 0, x -> x.luck(3));
        tells("33: by SKILL it is no luck", () -> after(twoSkills(1), x -> x.serves(0, 1)), 6, x -> x.luck(1));
        for (int w : NO_WAITER) {
            refusedFar("33: -1000001", Edges::busy, -1, x -> x.luck(w));
        }
        refusedFar("33: -1000001 NONE is no WAITER", Edges::busy, -1, x -> x.luck(NONE));
        refusedFar("33: -1000001 WAITER 4 of four", Edges::full, -1, x -> x.luck(4));
        refusedFar("33: -1000001 no WAITER at all", Edges::fresh, -1, x -> x.luck(0));
    }

    private static void worth34() {
        tells("Details: WORTH of SKILL 6 goes by 7", () -> ofOne(6, 3, 1, 9, 0), 9, x -> x.worth(0));
        tells("Details: WORTH of SKILL 6 and EFFORT 3", () -> after(ofOne(6, 3, 1, 9, 0), x -> x.becomes(0, 1, 3)), 9,
            x -> x.worth(0));
        tells("34: SKILL 0", () -> ofOne(0, 3, 1, 1, 0), 1, x -> x.worth(0));
        tells("34: no table", () -> withWaiters(4), 0, x -> x.worth(3));
        tells("34: guests who don't look at SERVICE", () -> ofOne(0, 0, 1, 9, 99), 0, x -> x.worth(0));
        tells("34: the last of a grudge", () -> ofOne(4, 6, 999, 2, 3), 5, x -> x.worth(0));
        tells("34: no grudge", () -> ofOne(5, 6, 999, 2, 3), 2, x -> x.worth(0));
        tells("34: a grudge that gives 0 still", () -> ofOne(0, 6, 1, 2, 9), 0, x -> x.worth(0));
        tells("34: up to what is ADDED it is nothing", () -> after(ofOne(0, 3, 10, 3, 0), x -> x.ask(1, 30)), 0,
            x -> x.worth(0));
        tells("34: above what is ADDED", () -> after(ofOne(0, 3, 10, 4, 0), x -> x.ask(1, 30)), 1, x -> x.worth(0));
        tells("34: all would be given, the one's that is SHOWN it too", () -> {
            TablesAndTips x = ofOne(0, 3, 1, 2, 0);
            x.waiter(0, 0, 0);
            x.table(5, 1, 1, 0, 1);
            return x;
        }, 4, x -> x.worth(0));
        for (int w : NO_WAITER) {
            refusedFar("34: -1000001", Edges::busy, -1, x -> x.worth(w));
        }
        refusedFar("34: -1000001 NONE is no WAITER", Edges::busy, -1, x -> x.worth(NONE));
        refusedFar("34: -1000001 WAITER 4 of four", Edges::full, -1, x -> x.worth(4));
        refusedFar("34: -1000001 no WAITER at all", Edges::fresh, -1, x -> x.worth(0));
    }

    private static void raise35() {
        tells("35: without WAITERS", Edges::fresh, 0, TablesAndTips::raise);
        for (int want : new int[] {0, 1, 2, 15, 29, 30}) {
            for (int added : new int[] {0, 15, 30}) {
                tells("35: the least ADDED with which SHARE is WANT at least, " + want, () -> after(giving(100, 0),
                    x -> {
                        x.becomes(0, 4, want);
                        x.ask(1, added);
                    }), want, TablesAndTips::raise);
            }
        }
        for (int want : new int[] {31, 999}) {
            tells("35: NONE", () -> after(giving(100, 0), x -> x.becomes(0, 4, want)), NONE, TablesAndTips::raise);
        }
        tells("35: NONE while it is ADDED already", () -> after(giving(100, 0), x -> {
            x.becomes(0, 4, 31);
            x.ask(1, 30);
        }), NONE, TablesAndTips::raise);
        tells("35: who has no table has NONE", () -> after(withWaiters(1), x -> x.becomes(0, 4, 1)), NONE,
            TablesAndTips::raise);
        tells("35: what is given is enough", () -> after(giving(100, 9), x -> x.becomes(0, 4, 9)), 0,
            TablesAndTips::raise);
        tells("35: one more than is given", () -> after(giving(100, 9), x -> x.becomes(0, 4, 10)), 10,
            TablesAndTips::raise);
        tells("35: each WAITER", () -> after(giving(100, 0, 0), x -> {
            x.becomes(0, 4, 3);
            x.becomes(1, 4, 8);
        }), 8, TablesAndTips::raise);
        tells("35: by the SHARE as SHARING is", () -> after(giving(100, 0, 0), x -> {
            x.ask(0, 2);
            x.becomes(1, 3, 3);
            x.becomes(0, 4, 3);
        }), 6, TablesAndTips::raise);
    }

    private static Made toldOf(int sort, long... efforts) {
        return () -> after(busy(), x -> row(x, 7, sort, efforts));
    }

    private static void judge36() {
        for (int sort = 0; sort < 4; sort++) {
            tells("36: NONE, 0 to 3", toldOf(sort, 0, 3, 1), NONE, x -> x.judge(7));
            tells("36: 4 may not be one", toldOf(sort, 4, 3, 1), 0, x -> x.judge(7));
            tells("36: -1 may not be one", toldOf(sort, 0, -1, 1), 1, x -> x.judge(7));
            tells("36: the last that may not be one", toldOf(sort, 3, 0, 4), 2, x -> x.judge(7));
            tells("36: the first of several", toldOf(sort, 0, 127, -128), 1, x -> x.judge(7));
            tells("36: one element for each WAITER, no more are looked at", toldOf(sort, 0, 0, 0, 4, -1), NONE,
                x -> x.judge(7));
        }
        tells("36: the least and the greatest of ints", toldOf(2, LEAST, MOST, 0), 0, x -> x.judge(7));
        tells("36: the greatest of ints", toldOf(2, 0, MOST, 0), 1, x -> x.judge(7));
        tells("Details: of longs the lowest 32 bits", toldOf(3, 1L << 32, Long.MIN_VALUE + 3, 3L << 40), NONE,
            x -> x.judge(7));
        tells("Details: of longs the lowest 32 bits: 4", toldOf(3, 0, 0, (1L << 32) + 4), 2, x -> x.judge(7));
        tells("Details: of longs the lowest 32 bits: below 0", toldOf(3, 0, 1L << 31, 0), 1, x -> x.judge(7));
        tells("36: no WAITERS, no elements", () -> after(fresh(), x -> x.row(0, 0, 0)), NONE, x -> x.judge(0));
        tells("36: no WAITERS, elements that are not asked", () -> after(fresh(), x -> row(x, 0, 0, 9)), NONE,
            x -> x.judge(0));
    }

    private static void judgeRefused36() {
        for (int s : NOWHERE) {
            refused("36: -1", Edges::busy, -1, x -> x.judge(s));
        }
        refused("36: -2", Edges::busy, -2, x -> x.judge(4));
        refused("36: -3", Edges::busy, -3, x -> x.judge(7));
        refused("36: -5 one element too few", toldOf(0, 0, 0), -5, x -> x.judge(7));
        refused("36: -5 no element", toldOf(0), -5, x -> x.judge(7));
        refused("36: -5 too few, though one may not be", toldOf(0, 9, 9), -5, x -> x.judge(7));
        refused("36: -3 without WAITERS too", Edges::fresh, -3, x -> x.judge(0));
    }

    /** One SERVED table of two each: 2 for each EFFORT, which costs 1, 3 for the second. */
    private static TablesAndTips toldHouse(long... efforts) {
        TablesAndTips x = new TablesAndTips();
        x.waiter(0, 1, 0);
        x.waiter(0, 3, 0);
        x.table(3, 1, 2, 0, 0);
        x.table(3, 1, 2, 0, 1);
        x.becomes(0, 1, 2);
        row(x, 0, 3, efforts);
        return x;
    }

    private static void told37() {
        for (int e = 0; e < 4; e++) {
            int effort = e;
            tells("37: GAIN by it, of " + e, () -> toldHouse(effort, 0), e, x -> x.told(0, 0));
            tells("37: may be below 0, of " + e, () -> toldHouse(3, effort), -e, x -> x.told(0, 1));
            tells("37: by all of it, in one pot", () -> after(toldHouse(effort, 3), x -> x.ask(0, 1)),
                (2 * e + 6) / 2 - e, x -> x.told(0, 0));
        }
        tells("Details: of longs the lowest 32 bits", () -> toldHouse((1L << 32) + 3, 1L << 40), 3, x -> x.told(0, 0));
        tells("37: more elements than WAITERS", () -> toldHouse(1, 1, 9), 1, x -> x.told(0, 0));
    }

    private static void toldRefused37() {
        Made good = () -> toldHouse(1, 1);
        for (int s : NOWHERE) {
            refusedFar("37: -1000001 SHELF", Edges::busy, -1, x -> x.told(s, 0));
        }
        for (int w : new int[] {LEAST, -1, 2, 3, 4, MOST}) {
            refusedFar("37: -1000001 WAITER", good, -1, x -> x.told(0, w));
            refusedFar("37: -1000001 ahead of -1000003", good, -1, x -> x.told(7, w));
            refusedFar("37: -1000001 ahead of -1000005", () -> toldHouse(1), -1, x -> x.told(0, w));
            refusedFar("37: -1000001 ahead of -1000006", () -> toldHouse(4, 1), -1, x -> x.told(0, w));
        }
        refusedFar("37: -1000001 ahead of -1000002", Edges::busy, -1, x -> x.told(4, 3));
        refusedFar("37: -1000001 no WAITER at all", () -> after(fresh(), x -> x.row(0, 0, 4)), -1, x -> x.told(0, 0));
        refusedFar("37: -1000002", Edges::busy, -2, x -> x.told(4, 0));
        refusedFar("37: -1000003", Edges::busy, -3, x -> x.told(7, 0));
        refusedFar("37: -1000005 one element too few", () -> toldHouse(1), -5, x -> x.told(0, 0));
        refusedFar("37: -1000005 ahead of -1000006", () -> toldHouse(9), -5, x -> x.told(0, 0));
        for (int e : new int[] {LEAST, -1, 4, MOST}) {
            refusedFar("37: -1000006 it may not be", () -> toldHouse(e, 1), -6, x -> x.told(0, 0));
            refusedFar("37: -1000006 another's may not be", () -> toldHouse(1, e), -6, x -> x.told(0, 0));
        }
    }

    /** All that comes of it, asked in turn. */
    private static void askAll(TablesAndTips x) {
        for (int w = NONE; w < 4; w++) {
            x.reply(w);
            x.rest(w);
            x.rests(w);
            x.best(w);
            x.points(w);
            x.turns(w, 30);
            x.luck(w);
            x.worth(w);
        }
        for (int k = 1; k < 9; k++) {
            x.most(k, NONE);
            x.even(k, NONE);
        }
        x.raise();
        x.leavers();
    }

    /** A house that was greater, and of which all was asked then. */
    private static TablesAndTips lessened(TablesAndTips x) {
        x.image();
        for (int w = x.status(1); w < 4; w++) {
            x.waiter(6, 0, 999);
            x.becomes(w, 1, 3);
        }
        for (int t = x.status(0); t < 8; t++) {
            x.table(3, 999, 9, 99, t % 4);
        }
        for (int w = 0; w < 4; w++) {
            x.becomes(w, 1, 3);
            x.becomes(w, 3, 9);
        }
        askAll(x);
        x.restore();
        return x;
    }

    private static void alikeNow(String sentence, Made made) {
        TablesAndTips x = lessened(made.make());
        TablesAndTips beside = made.make();
        beside.image();
        for (int w = NONE; w < beside.status(1); w++) {
            Checks.same("24: " + sentence, x.reply(w), beside.reply(w));
            Checks.same("25: " + sentence, x.rest(w), beside.rest(w));
            Checks.same("26: " + sentence, x.rests(w), beside.rests(w));
            Checks.same("27: " + sentence, x.best(w), beside.best(w));
            Checks.same("28: " + sentence, x.points(w), beside.points(w));
            Checks.same("32: " + sentence, x.turns(w, 7), beside.turns(w, 7));
            Checks.same("33: " + sentence, x.luck(w), beside.luck(w));
            Checks.same("34: " + sentence, x.worth(w), beside.worth(w));
        }
        for (int k = 1; k < 9; k++) {
            for (int t = NONE; t < beside.status(0); t++) {
                Checks.same("30: " + sentence, x.most(k, t), beside.most(k, t));
                Checks.same("31: " + sentence, x.even(k, t), beside.even(k, t));
            }
        }
        Checks.same("29: " + sentence, x.leavers(), beside.leavers());
        Checks.same("35: " + sentence, x.raise(), beside.raise());
    }

    /** What was asked ahead, of a greater house even, is nothing to what is asked now. */
    private static void askedAgain() {
        String sentence = "whatever was asked ahead";
        alikeNow(sentence, Edges::fresh);
        alikeNow(sentence, Edges::busy);
        alikeNow(sentence, () -> withWaiters(1));
        alikeNow(sentence, () -> withWaiters(3));
        alikeNow(sentence, () -> paid(6, 2));
        alikeNow(sentence, () -> potOfTwo(1, 2));
        alikeNow(sentence, () -> restless(2, 3));
        alikeNow(sentence, () -> wanting(75, 25));
        alikeNow(sentence, () -> wanting(999, 999));
        alikeNow(sentence, () -> twoSkills(3));
        alikeNow(sentence, () -> ofOne(6, 5, 1, 9, 0));
        alikeNow(sentence, () -> giving(100, 5, 3, 9));
        TablesAndTips x = twoSkills(5);
        does("30: one that can be", x, 24, y -> y.most(4, NONE));
        Checks.same("30: then one that can't be", x.most(2, NONE), -5);
        Checks.same("31: then one that can't be", x.even(2, NONE), -5);
        does("30: then the one that can be", x, 24, y -> y.most(4, NONE));
    }
}
