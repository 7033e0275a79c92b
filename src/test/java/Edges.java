import java.util.ArrayList;
import java.util.List;

/**
 * What the tests of the boundary cases share: each check names the sentence of the document that it is for.
 * A call is made on one of two like objects, and all that can be asked of both is compared then, so that whatever a
 * call should not have touched is seen.
 */
class Edges {
    static final int NONE = TablesAndTips.NONE;
    static final int LEAST = Integer.MIN_VALUE;
    static final int MOST = Integer.MAX_VALUE;
    private static final int FAR = -1000000;
    private static final int NEAR = -10;

    /** Numbers that no SHELF, table or WAITER has, whatever there is. */
    static final int[] NOWHERE = {LEAST, -2, -1, 8, 9, 100, MOST};

    interface Made {
        TablesAndTips make();
    }

    interface Call {
        long on(TablesAndTips x);
    }

    interface Steps {
        void on(TablesAndTips x);
    }

    // ---- checks ----

    /** A call that is refused: it answers the REFUSAL, which is counted, and nothing else is changed. */
    static void refused(String sentence, Made made, int refusal, Call call) {
        refusedAs(sentence, made, refusal, refusal, call);
    }

    /** The same where an answer may be below 0. */
    static void refusedFar(String sentence, Made made, int refusal, Call call) {
        refusedAs(sentence, made, refusal, refusal + FAR, call);
    }

    /** The same where NONE is an answer. */
    static void refusedNear(String sentence, Made made, int refusal, Call call) {
        refusedAs(sentence, made, refusal, refusal + NEAR, call);
    }

    private static void refusedAs(String sentence, Made made, int refusal, int answer, Call call) {
        TablesAndTips x = made.make();
        TablesAndTips beside = made.make();
        Checks.same(sentence, call.on(x), answer);
        for (int r = -1; r >= -7; r--) {
            int due = beside.status(10 - r) + (r == refusal ? 1 : 0);
            Checks.same(sentence + " [REFUSALS " + r + "]", x.status(10 - r), due);
        }
        alike(sentence, x, beside);
    }

    /** A text that has a FAULT: house() is refused, the FAULT is that, and nothing else is changed. */
    static void faulty(String sentence, Made made, String letters, int fault) {
        String words = sentence + " '" + letters + "'";
        TablesAndTips x = after(made.make(), y -> text(y, 7, letters));
        TablesAndTips beside = after(made.make(), y -> text(y, 7, letters));
        Checks.same(words, x.house(7), -6);
        Checks.same(words + " [the FAULT]", x.fault(), fault);
        for (int r = -1; r >= -7; r--) {
            Checks.same(words + " [REFUSALS " + r + "]", x.status(10 - r), beside.status(10 - r) + (r == -6 ? 1 : 0));
        }
        alikeBut(words, x, beside, "the FAULT");
    }

    /** A text that has none: it is told, so many ITEMS, and nothing is refused. */
    static TablesAndTips read(String sentence, Made made, String letters, int items) {
        TablesAndTips x = after(made.make(), y -> text(y, 7, letters));
        does(sentence + " '" + letters + "'", x, items, y -> y.house(7));
        Checks.same(sentence + " '" + letters + "' [no FAULT]", x.fault(), NONE);
        return x;
    }

    /** A call that tells something: it answers so, nothing is refused and nothing is changed. */
    static void tells(String sentence, Made made, long due, Call call) {
        TablesAndTips x = made.make();
        TablesAndTips beside = made.make();
        Checks.same(sentence, call.on(x), due);
        noMoreRefusals(sentence, x, beside);
        alike(sentence, x, beside);
    }

    /** A call that does something: it answers so, nothing is refused; what it changed is for the test to look at. */
    static void does(String sentence, TablesAndTips x, long due, Call call) {
        int[] ahead = refusalsOf(x);
        Checks.same(sentence, call.on(x), due);
        int[] now = refusalsOf(x);
        for (int r = 0; r < now.length; r++) {
            Checks.same(sentence + " [REFUSALS " + (-1 - r) + "]", now[r], ahead[r]);
        }
    }

    static int[] refusalsOf(TablesAndTips x) {
        int[] refusals = new int[7];
        for (int r = 0; r < refusals.length; r++) {
            refusals[r] = x.status(11 + r);
        }
        return refusals;
    }

    private static void noMoreRefusals(String sentence, TablesAndTips x, TablesAndTips beside) {
        int[] due = refusalsOf(beside);
        int[] got = refusalsOf(x);
        for (int r = 0; r < due.length; r++) {
            Checks.same(sentence + " [REFUSALS " + (-1 - r) + "]", got[r], due[r]);
        }
    }

    /** Both answer alike, whatever they are asked, but for REFUSALS; they can't be used for more then. */
    static void alike(String sentence, TablesAndTips x, TablesAndTips beside) {
        alikeBut(sentence, x, beside, "nothing");
    }

    private static void alikeBut(String sentence, TablesAndTips x, TablesAndTips beside, String leftOut) {
        List<String> got = everything(x);
        List<String> due = everything(beside);
        for (int i = 0; i < due.size() && i < got.size(); i++) {
            if (!got.get(i).equals(due.get(i)) && !due.get(i).startsWith(leftOut)) {
                Checks.holds(sentence + " [is " + got.get(i) + ", was " + due.get(i) + "]", false);
                return;
            }
        }
        Checks.holds(sentence + " [as much is told]", got.size() == due.size());
    }

    /** All that can be asked of an object; it is changed by that, as NUMBERS and THE IMAGE can't be seen otherwise. */
    private static List<String> everything(TablesAndTips x) {
        List<String> all = new ArrayList<>();
        addShelves(all, x);
        addHouse(all, x);
        all.add("the FAULT " + x.fault());
        all.add("bodies " + x.status(8));
        for (int i = 0; i < x.status(8); i++) {
            all.add("body " + i + " " + x.trace(i));
        }
        all.add("restore " + x.restore());
        addHouse(all, x);
        for (int s = 0; s < 8; s++) {
            all.add("SHELF " + s + " holds then " + x.holds(s));
        }
        return all;
    }

    private static void addShelves(List<String> all, TablesAndTips x) {
        for (int s = 0; s < 8; s++) {
            all.add("SHELF " + s + " holds " + x.holds(s));
            for (int i = 0; i < 8; i++) {
                all.add("element " + i + " of SHELF " + s + " " + x.element(s, i));
            }
            all.add("the last element of SHELF " + s + " " + x.element(s, 159));
        }
    }

    private static void addHouse(List<String> all, TablesAndTips x) {
        for (int what = 0; what < 8; what++) {
            all.add("status " + what + " " + x.status(what));
        }
        for (int t = 0; t < x.status(0); t++) {
            for (int what = 0; what < 5; what++) {
                all.add("table " + t + " " + what + " " + x.tableOf(t, what));
            }
        }
        for (int w = 0; w < x.status(1); w++) {
            for (int what = 0; what < 6; what++) {
                all.add("WAITER " + w + " " + what + " " + x.waiterOf(w, what));
            }
        }
        for (int what = 2; what < 5; what++) {
            all.add("NUMBERS " + (what - 2) + " " + x.ask(what, 0));
        }
    }

    // ---- objects to call ----

    static TablesAndTips fresh() {
        return new TablesAndTips();
    }

    /**
     * An object of which all is something else than at first: 3 WAITERS, 5 TABLES, an IMAGE of 4 of them, a TRACE, a
     * FAULT. SHELVES 0 to 3 hold ROWS of bytes (4), shorts (2), ints (5: a TABLE), longs (3: EFFORTS), 4 and 5 hold
     * GUESTS of tables 1 and 4, 6 a text that has a FAULT, 7 NOTHING.
     */
    static TablesAndTips busy() {
        TablesAndTips x = new TablesAndTips();
        x.waiter(3, 2, 20);
        x.waiter(5, 1, 10);
        x.waiter(0, 9, 5);
        x.table(0, 50, 2, 7, 0);
        x.table(5, 83, 3, 10, 1);
        x.table(6, 90, 5, 9, 0);
        x.table(3, 40, 4, 10, 2);
        x.becomes(1, 1, 2);
        x.becomes(1, 3, 4);
        x.ask(0, 1);
        x.ask(1, 5);
        x.ask(2, 30);
        x.ask(3, 25);
        x.ask(4, 35);
        x.seed(77);
        x.evening();
        x.image();
        x.ask(0, 3);
        x.ask(1, 10);
        x.becomes(0, 1, 3);
        x.evening();
        x.table(4, 60, 1, 3, 1);
        x.act(2, 2, 10);
        x.seed(78);
        row(x, 0, 0, 1, 2, 3, -4);
        row(x, 1, 1, 300, -300);
        row(x, 2, 2, 0, 1, 1, 1, 0);
        row(x, 3, 3, 3, 0, 1L << 32);
        x.show(4, 1);
        x.show(5, 4);
        text(x, 6, "added 99");
        x.house(6);
        return x;
    }

    /** 4 WAITERS, 8 TABLES; each SHELF holds GUESTS of the table of its number. */
    static TablesAndTips full() {
        TablesAndTips x = withWaiters(4);
        for (int t = 0; t < 8; t++) {
            x.table(0, 10 + t, 1, t, t % 4);
            x.show(t, t);
        }
        return x;
    }

    /** WAITERS without SKILL, PAINS and WANT. */
    static TablesAndTips withWaiters(int n) {
        TablesAndTips x = new TablesAndTips();
        for (int w = 0; w < n; w++) {
            x.waiter(0, 0, 0);
        }
        return x;
    }

    /** One WAITER of such a SKILL and one TABLE. */
    static TablesAndTips ofOne(int skill, int kind, int bill, int party, int a) {
        TablesAndTips x = new TablesAndTips();
        x.waiter(skill, 0, 0);
        x.table(kind, bill, party, a, 0);
        return x;
    }

    /** WAITERS without SKILL, PAINS and WANT, each with one table that gives so much, for BILLS of so much. */
    static TablesAndTips giving(int bill, int... gifts) {
        TablesAndTips x = withWaiters(gifts.length);
        for (int w = 0; w < gifts.length; w++) {
            x.table(0, bill, 1, gifts[w], w);
        }
        return x;
    }

    static TablesAndTips after(TablesAndTips x, Steps steps) {
        steps.on(x);
        return x;
    }

    static void row(TablesAndTips x, int s, int sort, long... elements) {
        x.row(s, sort, elements.length);
        for (int i = 0; i < elements.length; i++) {
            x.set(s, i, elements[i]);
        }
    }

    static void text(TablesAndTips x, int s, String letters) {
        x.row(s, 0, letters.length());
        for (int i = 0; i < letters.length(); i++) {
            x.set(s, i, letters.charAt(i));
        }
    }
}
