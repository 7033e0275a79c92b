/** The boundary cases of what is given and what is shared: promises 19 to 23, GIFTS in the Terms and the Details. */
public final class GiftEdgesTest extends Edges {
    private GiftEdgesTest() {
    }

    public static void main(String[] args) {
        gift();
        custom();
        rounded();
        served();
        nudged();
        shown();
        grudged();
        added();
        tablesThereAreNot();
        all21();
        own22();
        pot22();
        byPoints22();
        half22();
        shareRefused22();
        gain23();
        gainRefused23();
        Checks.end("GiftEdgesTest");
    }

    private static void wouldGive(String sentence, int due, Made made) {
        tells("19: " + sentence, made, due, x -> x.would(x.status(0) - 1));
    }

    private static void gives(String sentence, int due, Made made) {
        tells("20: " + sentence, made, due, x -> x.gives(x.status(0) - 1));
    }

    private static void gift() {
        wouldGive("GIFT: a, the least", 0, () -> ofOne(6, 0, 999, 9, 0));
        wouldGive("GIFT: a, the greatest", 99, () -> ofOne(0, 0, 1, 1, 99));
    }

    private static void custom() {
        wouldGive("CUSTOM: of a 0", 0, () -> ofOne(6, 1, 999, 9, 0));
        wouldGive("CUSTOM: cut, one below 1", 0, () -> ofOne(6, 1, 99, 9, 1));
        wouldGive("CUSTOM: 1 at once", 1, () -> ofOne(6, 1, 100, 9, 1));
        wouldGive("CUSTOM: cut, one below 2", 1, () -> ofOne(6, 1, 199, 9, 1));
        wouldGive("CUSTOM: the least BILL", 0, () -> ofOne(6, 1, 1, 9, 99));
        wouldGive("CUSTOM: the greatest, cut", 989, () -> ofOne(6, 1, 999, 9, 99));
    }

    private static void rounded() {
        wouldGive("Details: ROUNDED is nothing more if it is a multiple of 10 already", 0, () -> ofOne(6, 2, 10, 9, 0));
        wouldGive("Details: ROUNDED, with CUSTOM's a multiple already", 10, () -> ofOne(6, 2, 100, 9, 10));
        wouldGive("Details: ROUNDED, by CUSTOM's alone a multiple", 3, () -> ofOne(6, 2, 37, 9, 10));
        wouldGive("ROUNDED: one above a multiple", 9, () -> ofOne(6, 2, 11, 9, 0));
        wouldGive("ROUNDED: one below a multiple", 1, () -> ofOne(6, 2, 9, 9, 0));
        wouldGive("ROUNDED: the least BILL", 9, () -> ofOne(6, 2, 1, 9, 0));
        wouldGive("ROUNDED: the greatest BILL", 1, () -> ofOne(6, 2, 999, 9, 0));
        wouldGive("ROUNDED: CUSTOM's, and 2 more", 991, () -> ofOne(6, 2, 999, 9, 99));
    }

    private static void served() {
        wouldGive("SERVED: SERVICE 0: CUSTOM's", 19, () -> ofOne(0, 3, 199, 9, 10));
        wouldGive("SERVED: the least PARTY", 25, () -> ofOne(6, 3, 199, 1, 10));
        wouldGive("SERVED: q for each of the greatest PARTY", 73, () -> ofOne(6, 3, 199, 9, 10));
        wouldGive("SERVED: SERVICE 9", 100, () -> after(ofOne(6, 3, 199, 9, 10), x -> x.becomes(0, 1, 3)));
        wouldGive("SERVED: by its own WAITER", 22, () -> after(ofOne(6, 3, 199, 1, 10), x -> {
            x.waiter(3, 0, 0);
            x.serves(0, 1);
        }));
    }

    private static void nudged() {
        int[][] numbers = {{1, 2, 3}, {1, 3, 2}, {2, 1, 3}, {2, 3, 1}, {3, 1, 2}, {3, 2, 1}, {2, 2, 1}, {2, 1, 2},
            {1, 2, 2}, {2, 2, 3}, {2, 3, 2}, {3, 2, 2}, {2, 2, 2}, {0, 2, 99}, {99, 2, 0}, {99, 0, 2}};
        for (int[] n : numbers) {
            wouldGive("Details: NUDGED goes by the second of the three in order of size", 2, () -> nudgedBy(100, n));
        }
        wouldGive("NUDGED: 10, 15, 20 at first", 15, () -> ofOne(6, 4, 100, 9, 99));
        wouldGive("NUDGED: cut", 1, () -> nudgedBy(199, 1, 1, 1));
        wouldGive("NUDGED: cut to 0", 0, () -> nudgedBy(99, 1, 1, 1));
        wouldGive("NUDGED: of 0", 0, () -> nudgedBy(999, 0, 0, 99));
        wouldGive("NUDGED: the greatest", 989, () -> nudgedBy(999, 99, 0, 99));
    }

    private static TablesAndTips nudgedBy(int bill, int... numbers) {
        TablesAndTips x = ofOne(6, 4, bill, 9, 99);
        for (int i = 0; i < 3; i++) {
            x.ask(2 + i, numbers[i]);
        }
        return x;
    }

    /** A table that GIVES so much, and one that is SHOWN it, whose CUSTOM's is 10. */
    private static TablesAndTips shownAfter(int gift) {
        TablesAndTips x = ofOne(6, 0, 100, 9, gift);
        x.table(5, 100, 9, 10, 0);
        return x;
    }

    private static void shown() {
        wouldGive("SHOWN: if there is none ahead, CUSTOM's", 10, () -> ofOne(6, 5, 100, 9, 10));
        wouldGive("SHOWN: if there is none ahead, CUSTOM's of 0", 0, () -> ofOne(6, 5, 100, 9, 0));
        gives("SHOWN: if there is none ahead, CUSTOM's of 0", 0, () -> ofOne(6, 5, 100, 9, 0));
        wouldGive("SHOWN: if there is none ahead, not what it GIVES itself", 10,
            () -> after(ofOne(6, 5, 100, 9, 10), x -> x.ask(1, 30)));
        wouldGive("SHOWN: the table ahead GIVES 0", 10, () -> shownAfter(0));
        wouldGive("SHOWN: the table ahead GIVES less", 10, () -> shownAfter(9));
        wouldGive("SHOWN: the table ahead GIVES as much", 10, () -> shownAfter(10));
        wouldGive("SHOWN: no less than what the table ahead GIVES", 11, () -> shownAfter(11));
        wouldGive("SHOWN: the greatest gift ahead", 99, () -> shownAfter(99));
        wouldGive("SHOWN: its number less 1, no other", 10, () -> after(shownAfter(50), x -> {
            x.table(0, 1, 9, 0, 0);
            x.table(5, 100, 9, 10, 0);
        }));
        wouldGive("SHOWN: not the one after it", 10, () -> {
            TablesAndTips x = ofOne(6, 0, 1, 9, 0);
            x.table(0, 1, 9, 99, 0);
            x.table(0, 1, 9, 0, 0);
            x.table(5, 100, 9, 10, 0);
            return x;
        });
        wouldGive("SHOWN: through one that was SHOWN it", 50, () -> after(shownAfter(50), x -> x.table(5, 1, 1, 1, 0)));
        wouldGive("Details: SHOWN goes by what the table ahead GIVES, ADDED and all", 30,
            () -> after(shownAfter(9), x -> x.ask(1, 30)));
        gives("Details: SHOWN what it is SHOWN, more than its own ADDED", 29, () -> {
            TablesAndTips x = ofOne(6, 0, 100, 9, 9);
            x.table(5, 10, 9, 10, 0);
            x.ask(1, 29);
            return x;
        });
    }

    private static void grudged() {
        int[] due = {9, 13, 17, 21, 25, 29, 31};
        for (int q = 0; q < 7; q++) {
            int skill = q;
            wouldGive("GRUDGED: SERVED's, less a times how much q is below 5, q " + q, due[q],
                () -> ofOne(skill, 6, 999, 2, 2));
        }
        wouldGive("GRUDGED: SERVICE 9", 37, () -> after(ofOne(6, 6, 999, 2, 2), x -> x.becomes(0, 1, 3)));
        wouldGive("GRUDGED: 0 at least, of 1 below", 0, () -> ofOne(4, 6, 1, 1, 5));
        wouldGive("GRUDGED: just 0", 0, () -> ofOne(4, 6, 1, 1, 4));
        wouldGive("GRUDGED: just 1", 1, () -> ofOne(4, 6, 1, 1, 3));
        wouldGive("GRUDGED: 0 at least, of the greatest grudge", 0, () -> ofOne(0, 6, 1, 9, 99));
        wouldGive("GRUDGED: a 0 bears none", 0, () -> ofOne(0, 6, 999, 9, 0));
        gives("GRUDGED: ADDED all the same", 29, () -> after(ofOne(0, 6, 99, 9, 60), x -> x.ask(1, 30)));
    }

    private static void added() {
        for (int[] c : new int[][] {{9, 10}, {10, 10}, {11, 11}, {0, 10}, {99, 99}}) {
            gives("ADDED 10, and as much as it would GIVE more than that (0 at least), of " + c[0], c[1],
                () -> after(ofOne(6, 0, 100, 9, c[0]), x -> x.ask(1, 10)));
            wouldGive("what it would GIVE goes without ADDED", c[0],
                () -> after(ofOne(6, 0, 100, 9, c[0]), x -> x.ask(1, 10)));
        }
        gives("ADDED 0", 0, () -> ofOne(6, 0, 999, 9, 0));
        gives("ADDED 1: cut to 0", 0, () -> after(ofOne(6, 0, 99, 9, 0), x -> x.ask(1, 1)));
        gives("ADDED 1: 1 at once", 1, () -> after(ofOne(6, 0, 100, 9, 0), x -> x.ask(1, 1)));
        gives("ADDED 1: cut to 1", 1, () -> after(ofOne(6, 0, 199, 9, 0), x -> x.ask(1, 1)));
        gives("ADDED 30: cut", 299, () -> after(ofOne(6, 0, 999, 9, 0), x -> x.ask(1, 30)));
        gives("ADDED 30: the least BILL", 0, () -> after(ofOne(6, 0, 1, 9, 0), x -> x.ask(1, 30)));
    }

    private static void tablesThereAreNot() {
        tells("19: the first", Edges::full, 0, x -> x.would(0));
        tells("19: the last of eight", Edges::full, 7, x -> x.would(7));
        tells("20: the first", Edges::full, 0, x -> x.gives(0));
        tells("20: the last of eight", Edges::full, 7, x -> x.gives(7));
        for (int t : new int[] {LEAST, -2, -1, 5, 6, 8, MOST}) {
            refused("19: -1", Edges::busy, -1, x -> x.would(t));
            refused("20: -1", Edges::busy, -1, x -> x.gives(t));
        }
        refused("19: -1 table 8 of eight", Edges::full, -1, x -> x.would(8));
        refused("20: -1 table 8 of eight", Edges::full, -1, x -> x.gives(8));
        refused("19: -1 no table at all", Edges::fresh, -1, x -> x.would(0));
        refused("20: -1 no table at all", Edges::fresh, -1, x -> x.gives(0));
    }

    private static void all21() {
        tells("21: nothing there at all", Edges::fresh, 0, TablesAndTips::all);
        tells("21: no table", () -> withWaiters(4), 0, TablesAndTips::all);
        tells("21: all eight", Edges::full, 28, TablesAndTips::all);
        tells("21: ADDED and all", () -> after(full(), x -> x.ask(1, 30)), 3 + 3 + 3 + 3 + 4 + 5 + 6 + 7,
            TablesAndTips::all);
        tells("21: of no more tables than there are now", GiftEdgesTest::oneOfTwo, 7, TablesAndTips::all);
        tells("22: OWN of no more tables than there are now", GiftEdgesTest::oneOfTwo, 7, x -> x.share(0, 0));
    }

    /** A table that gives 7; another one, that gave 50, was there, and was asked, but is not in THE IMAGE. */
    private static TablesAndTips oneOfTwo() {
        TablesAndTips x = giving(1, 7);
        x.image();
        x.table(0, 1, 1, 50, 0);
        x.all();
        x.restore();
        return x;
    }

    private static void own22() {
        tells("22: OWN of who has no table", () -> after(giving(1, 7), x -> x.waiter(1, 1, 1)), 0, x -> x.share(1, 0));
        tells("22: SHARE by OWN of who has no table", () -> after(giving(1, 7), x -> x.waiter(1, 1, 1)), 0,
            x -> x.share(1, 1));
        tells("22: OWN of one of two tables", Edges::full, 2 + 6, x -> x.share(2, 0));
        tells("22: SHARE by OWN", Edges::full, 2 + 6, x -> x.share(2, 1));
        tells("22: nothing given", () -> withWaiters(1), 0, x -> x.share(0, 0));
        for (int sharing = 0; sharing < 4; sharing++) {
            int asked = sharing;
            tells("22: OWN whatever SHARING is", () -> after(full(), x -> x.ask(0, asked)), 8, x -> x.share(2, 0));
            tells("22: a SHARE of nothing", () -> after(withWaiters(1), x -> x.ask(0, asked)), 0,
                x -> x.share(0, 1));
            tells("22: the SHARE of the only WAITER", () -> after(giving(1, 16), x -> x.ask(0, asked)), 16,
                x -> x.share(0, 1));
        }
    }

    private static void pot22() {
        for (int[] c : new int[][] {{59, 19}, {60, 20}, {61, 20}, {62, 20}, {63, 21}, {2, 0}, {3, 1}, {0, 0}}) {
            for (int w = 0; w < 3; w++) {
                int asked = w;
                tells("22: POT: by how many WAITERS (cut), " + c[0], () -> after(giving(1, c[0], 0, 0),
                    x -> x.ask(0, 1)), c[1], x -> x.share(asked, 1));
            }
        }
    }

    private static TablesAndTips byPoints(int gift, int... points) {
        TablesAndTips x = giving(1, new int[points.length]);
        x.ask(0, 2);
        x.table(0, 1, 1, gift, 0);
        for (int w = 0; w < points.length; w++) {
            x.becomes(w, 3, points[w]);
        }
        return x;
    }

    private static void byPoints22() {
        tells("22: BY POINTS: 1 each at first", () -> after(giving(1, 9, 0, 0), x -> x.ask(0, 2)), 3,
            x -> x.share(2, 1));
        tells("22: BY POINTS: all times POINTS by all POINTS", () -> byPoints(10, 1, 9), 1, x -> x.share(0, 1));
        tells("22: BY POINTS: the most POINTS", () -> byPoints(10, 1, 9), 9, x -> x.share(1, 1));
        tells("22: BY POINTS: cut, one less", () -> byPoints(9, 1, 9), 0, x -> x.share(0, 1));
        tells("22: BY POINTS: cut, of the most", () -> byPoints(9, 1, 9), 8, x -> x.share(1, 1));
        tells("22: BY POINTS: cut once, after the product", () -> byPoints(7, 3, 3, 3, 1), 2, x -> x.share(1, 1));
        tells("22: BY POINTS: of four times nine", () -> byPoints(99, 9, 9, 9, 9), 24, x -> x.share(3, 1));
    }

    private static void half22() {
        int[][] cases = {{0, 0, 0}, {1, 0, 0}, {2, 1, 0}, {3, 1, 0}, {4, 3, 1}, {7, 4, 1}, {8, 6, 2}, {15, 10, 3}};
        for (int[] c : cases) {
            Made made = () -> after(giving(1, c[0], 0), x -> x.ask(0, 3));
            tells("Details: HALF: the SHARE of POT, cut, is halved, cut; half of OWN is cut, " + c[0], made, c[1],
                x -> x.share(0, 1));
            tells("Details: HALF of who has none, " + c[0], made, c[2], x -> x.share(1, 1));
        }
        tells("22: HALF: each half is cut by itself", () -> after(giving(1, 1, 1), x -> x.ask(0, 3)), 0,
            x -> x.share(0, 1));
        tells("22: HALF: each half is cut by itself, of 3", () -> after(giving(1, 3, 3), x -> x.ask(0, 3)), 2,
            x -> x.share(0, 1));
    }

    private static void shareRefused22() {
        tells("22: the last of four", Edges::full, 3 + 7, x -> x.share(3, 1));
        for (int w : new int[] {LEAST, -1, 3, 4, MOST}) {
            for (int what = 0; what < 2; what++) {
                int asked = what;
                refused("22: -1", Edges::busy, -1, x -> x.share(w, asked));
            }
            refused("22: -1 ahead of -5", Edges::busy, -1, x -> x.share(w, 2));
        }
        refused("22: -1 WAITER 4 of four", Edges::full, -1, x -> x.share(4, 1));
        refused("22: -1 no WAITER at all", Edges::fresh, -1, x -> x.share(0, 0));
        for (int what : new int[] {LEAST, -1, 2, 3, MOST}) {
            refused("22: -5 another what", Edges::busy, -5, x -> x.share(0, what));
        }
    }

    /** One WAITER of PAINS 10 with two tables, one of which gives as it is served: 2 for each EFFORT. */
    private static TablesAndTips pained() {
        TablesAndTips x = new TablesAndTips();
        x.waiter(1, 10, 0);
        x.table(3, 1, 2, 0, 0);
        x.table(0, 1, 1, 9, 0);
        x.becomes(0, 1, 2);
        return x;
    }

    private static void gain23() {
        int[] due = {11, 13 - 20, 15 - 40, 17 - 60};
        for (int e = 0; e < 4; e++) {
            int effort = e;
            tells("23: if the EFFORT were " + e + " (may be below 0)", GiftEdgesTest::pained, due[e],
                x -> x.gain(0, effort));
            tells("23: NONE: as it is, " + e, () -> after(pained(), x -> x.becomes(0, 1, effort)), due[e],
                x -> x.gain(0, NONE));
            tells("23: of who has no table, " + e, () -> withWaiters(2), 0, x -> x.gain(1, effort));
        }
        tells("23: the least there is", () -> {
            TablesAndTips x = new TablesAndTips();
            x.waiter(0, 99, 0);
            for (int t = 0; t < 8; t++) {
                x.table(0, 1, 1, 0, 0);
            }
            return x;
        }, -99 * 3 * 8, x -> x.gain(0, 3));
        tells("23: PAINS 0", () -> after(pained(), x -> x.becomes(0, 2, 0)), 17, x -> x.gain(0, 3));
        tells("23: of a SHARE of all, less the own PAINS", () -> after(pained(), x -> {
            x.waiter(0, 99, 0);
            x.becomes(1, 1, 3);
            x.ask(0, 1);
        }), 15 / 2 - 40, x -> x.gain(0, NONE));
    }

    private static void gainRefused23() {
        tells("23: the last of four", Edges::full, 3 + 7, x -> x.gain(3, 3));
        for (int w : new int[] {LEAST, -1, 3, 4, MOST}) {
            refusedFar("23: -1000001", Edges::busy, -1, x -> x.gain(w, 0));
            refusedFar("23: -1000001 ahead of -1000006", Edges::busy, -1, x -> x.gain(w, 4));
            refusedFar("23: -1000001 for NONE", Edges::busy, -1, x -> x.gain(w, NONE));
        }
        refusedFar("23: -1000001 WAITER 4 of four", Edges::full, -1, x -> x.gain(4, 0));
        refusedFar("23: -1000001 no WAITER at all", Edges::fresh, -1, x -> x.gain(0, NONE));
        for (int e : new int[] {LEAST, -2, 4, 5, MOST}) {
            refusedFar("23: -1000006", Edges::busy, -6, x -> x.gain(0, e));
        }
    }
}
