import java.util.regex.Pattern;

/** The boundary cases of a HOUSE read from letters: promises 17 and 18. */
public final class TextEdgesTest extends Edges {
    /** All ITEMS; each beginning of a NUMBER is one that may be. */
    private static final String WHOLE = "waiter 3 10 200;table 6 120 9 25 0;sharing 3;added 30;numbers 1 22 99";
    private static final String NUMBER = " \\d{1,3}";
    private static final String ITEM = "(waiter" + NUMBER.repeat(3) + "|table" + NUMBER.repeat(5) + "|sharing" + NUMBER
        + "|added" + NUMBER + "|numbers" + NUMBER.repeat(3) + ")";
    private static final Pattern HOUSE = Pattern.compile(ITEM + "(;" + ITEM + ")*");

    private TextEdgesTest() {
    }

    public static void main(String[] args) {
        endsTooEarly();
        strangeElements();
        elementsTooMany();
        elementsTooFew();
        letters();
        numbersThatMayBe();
        numbersThatMayNot();
        digits();
        waitersOfTables();
        room();
        manyItems();
        toldOver();
        orNothing();
        rows();
        refusals17();
        fault18();
        Checks.end("TextEdgesTest");
    }

    private static void endsTooEarly() {
        for (int n = 0; n <= WHOLE.length(); n++) {
            String begun = WHOLE.substring(0, n);
            if (HOUSE.matcher(begun).matches()) {
                read("17: a HOUSE", Edges::fresh, begun, begun.split(";").length);
            } else {
                faulty("Terms: the number of elements, if it ends too early", Edges::fresh, begun, n);
            }
        }
    }

    /** Elements that no HOUSE has, anywhere; the last ones are no letters. */
    private static void strangeElements() {
        for (char strange : new char[] {'#', '/', ':', ',', '.', '-', '+', '\t', '\n', 'z', '_', 0, 127, 128, 255}) {
            for (int i = 0; i < WHOLE.length(); i++) {
                String put = WHOLE.substring(0, i) + strange + WHOLE.substring(i + 1);
                faulty("Terms: the first place at which an element can't stand", Edges::fresh, put, i);
            }
        }
        for (int i = 0; i <= WHOLE.length(); i++) {
            String more = WHOLE.substring(0, i) + '#' + WHOLE.substring(i);
            faulty("Terms: the first place, of one too many", Edges::fresh, more, i);
        }
    }

    private static int firstDifference(String a, String b) {
        int i = 0;
        while (i < a.length() && i < b.length() && a.charAt(i) == b.charAt(i)) {
            i++;
        }
        return i;
    }

    private static void elementsTooMany() {
        for (int i = 0; i < WHOLE.length(); i++) {
            if (!Character.isDigit(WHOLE.charAt(i))) {
                String twice = WHOLE.substring(0, i + 1) + WHOLE.substring(i);
                faulty("Terms: one blank, one ;, each letter once", Edges::fresh, twice, firstDifference(twice, WHOLE));
            }
        }
        faulty("Terms: no blank ahead", Edges::fresh, " " + WHOLE, 0);
        faulty("Terms: no ; ahead", Edges::fresh, ";" + WHOLE, 0);
        faulty("Terms: no blank at the end", Edges::fresh, WHOLE + " ", WHOLE.length());
        faulty("Terms: an ITEM after each ;", Edges::fresh, WHOLE + ";", WHOLE.length() + 1);
        faulty("Terms: no blank after a ;", Edges::fresh, "added 1; added 1", 8);
        faulty("Terms: no blank ahead of a ;", Edges::fresh, "added 1 ;added 1", 7);
        faulty("Terms: one NUMBER and no more", Edges::fresh, "sharing 1 1", 9);
        faulty("Terms: one NUMBER and no more", Edges::fresh, "added 1 1", 7);
        faulty("Terms: three NUMBERS and no more", Edges::fresh, "numbers 1 1 1 1", 13);
        faulty("Terms: three NUMBERS and no more", Edges::fresh, "waiter 1 1 1 1", 12);
        faulty("Terms: five NUMBERS and no more", () -> withWaiters(1), "table 0 1 1 1 0 1", 15);
    }

    private static void elementsTooFew() {
        faulty("Terms: two NUMBERS are too few", Edges::fresh, "numbers 1 1;added 1", 11);
        faulty("Terms: two NUMBERS are too few", Edges::fresh, "waiter 1 1;added 1", 10);
        faulty("Terms: four NUMBERS are too few", () -> withWaiters(1), "table 0 1 1 1;added 1", 13);
        faulty("Terms: no NUMBER is too few", Edges::fresh, "sharing;added 1", 7);
        faulty("Terms: no NUMBER after the blank", Edges::fresh, "added ;added 1", 6);
        faulty("Terms: no blank", Edges::fresh, "added1", 5);
        faulty("Terms: no blank between NUMBERS", Edges::fresh, "numbers 1,1 1", 9);
    }

    private static void letters() {
        for (int i = 0; i < WHOLE.length(); i++) {
            if (Character.isLetter(WHOLE.charAt(i))) {
                String large = WHOLE.substring(0, i) + Character.toUpperCase(WHOLE.charAt(i)) + WHOLE.substring(i + 1);
                faulty("Terms: a letter that is not as it is", Edges::fresh, large, i);
            }
        }
        for (char first = 1; first < 128; first++) {
            if ("wtsan".indexOf(first) < 0) {
                faulty("Terms: no word begins so", Edges::fresh, first + "dded 1", 0);
            }
        }
        faulty("Terms: one word's letters after another's", Edges::fresh, "atable", 1);
        faulty("Terms: one word's letters after another's", Edges::fresh, "waiters 1", 6);
        faulty("Terms: NUMBERS' word is not number", Edges::fresh, "number 1 2 3", 6);
    }

    private static String ofThree(String word, int i, String v) {
        return word + (i == 0 ? " " + v : " 1") + (i == 1 ? " " + v : " 1") + (i == 2 ? " " + v : " 1");
    }

    private static String tableWith(int i, String v) {
        String[] numbers = {"0", "1", "1", "1", "0"};
        numbers[i] = v;
        return "table " + String.join(" ", numbers);
    }

    private static void numbersThatMayBe() {
        int[] waiter = {0, 2, 4};
        int[] waiterMost = {6, 99, 999};
        for (int i = 0; i < 3; i++) {
            for (int v : new int[] {0, waiterMost[i]}) {
                TablesAndTips x = read("17: a WAITER's NUMBER", Edges::fresh, ofThree("waiter", i, "" + v), 1);
                Checks.same("17: SKILL, PAINS, WANT", x.waiterOf(0, waiter[i]), v);
            }
        }
        int[] least = {0, 1, 1, 0, 0};
        int[] most = {6, 999, 9, 99, 1};
        for (int i = 0; i < 5; i++) {
            for (int v : new int[] {least[i], most[i]}) {
                TablesAndTips x = read("17: a TABLE's NUMBER", () -> withWaiters(2), tableWith(i, "" + v), 1);
                Checks.same("17: KIND, BILL, PARTY, a, WAITER", x.tableOf(0, i), v);
            }
        }
        for (int v : new int[] {0, 3}) {
            Checks.same("17: SHARING", read("17: SHARING", Edges::fresh, "sharing " + v, 1).status(3), v);
        }
        for (int v : new int[] {0, 30}) {
            Checks.same("17: ADDED", read("17: ADDED", Edges::fresh, "added " + v, 1).status(4), v);
        }
        for (int i = 0; i < 3; i++) {
            for (int v : new int[] {0, 99}) {
                TablesAndTips x = read("17: NUMBERS", Edges::fresh, ofThree("numbers", i, "" + v), 1);
                Checks.same("17: each of NUMBERS", x.ask(2 + i, 5), v);
            }
        }
    }

    private static final String FAULT_OF_NUMBER = "Terms: of a NUMBER that may not be the place of its first digit";

    private static void numbersThatMayNot() {
        String[] waiterOver = {"7", "100"};
        for (int i = 0; i < 2; i++) {
            faulty(FAULT_OF_NUMBER, Edges::fresh, ofThree("waiter", i, waiterOver[i]), 7 + 2 * i);
            faulty(FAULT_OF_NUMBER, Edges::fresh, ofThree("waiter", i, "999"), 7 + 2 * i);
        }
        String[][] over = {{"7", "007", "10", "999"}, {"0", "00", "000"}, {"0", "000", "10", "010", "999"},
            {"100", "999"}, {"2", "002", "3", "10", "999"}};
        for (int i = 0; i < 5; i++) {
            for (String v : over[i]) {
                faulty(FAULT_OF_NUMBER, () -> withWaiters(2), tableWith(i, v) + ";added 1", 6 + 2 * i);
                faulty(FAULT_OF_NUMBER, () -> withWaiters(2), tableWith(i, v + "x"), 6 + 2 * i);
            }
        }
        for (String v : new String[] {"4", "04", "004", "9", "10", "999"}) {
            faulty(FAULT_OF_NUMBER, Edges::fresh, "sharing " + v, 8);
        }
        for (String v : new String[] {"31", "031", "99", "100", "999"}) {
            faulty(FAULT_OF_NUMBER, Edges::fresh, "added " + v, 6);
        }
        for (int i = 0; i < 3; i++) {
            faulty(FAULT_OF_NUMBER, Edges::fresh, ofThree("numbers", i, "100"), 8 + 2 * i);
            faulty(FAULT_OF_NUMBER, Edges::fresh, ofThree("numbers", i, "999"), 8 + 2 * i);
            faulty("Terms: no sign ahead of a NUMBER", Edges::fresh, ofThree("numbers", i, "-1"), 8 + 2 * i);
        }
        faulty(FAULT_OF_NUMBER + " (read so where the text ends in it)", () -> withWaiters(1), "table 0 0", 8);
        faulty(FAULT_OF_NUMBER + " (read so where the text ends in it)", () -> withWaiters(1), "table 0 1 00", 10);
    }

    private static void digits() {
        for (String v : new String[] {"0", "00", "000"}) {
            read("Details: Numbers of a text may begin with 0", Edges::fresh, "numbers " + v + " " + v + " " + v, 1);
            read("Details: Numbers of a text may begin with 0", Edges::fresh, "waiter " + v + " " + v + " " + v, 1);
        }
        TablesAndTips x = read("Details: Numbers of a text may begin with 0", () -> withWaiters(1),
            "table 002 010 009 08 00", 1);
        int[] due = {2, 10, 9, 8, 0};
        for (int what = 0; what < 5; what++) {
            Checks.same("Details: they are tens and ones all the same", x.tableOf(0, what), due[what]);
        }
        faulty("Terms: NUMBERS (1 to 3 digits), the fourth can't stand", Edges::fresh, "added 0001", 9);
        faulty("Terms: NUMBERS (1 to 3 digits), the fourth can't stand", Edges::fresh, "added 0301", 9);
        faulty("Terms: of three digits that may not be the first", Edges::fresh, "added 0310", 6);
        faulty("Terms: NUMBERS (1 to 3 digits), the fourth can't stand", Edges::fresh, "waiter 0000 1 1", 10);
        faulty("Terms: NUMBERS (1 to 3 digits), the fourth can't stand", Edges::fresh, "waiter 1 1 9990", 14);
        faulty("Terms: NUMBERS (1 to 3 digits), the fourth can't stand", Edges::fresh, "waiter 1 1 0999", 14);
        faulty("Terms: of three digits that may not be the first", Edges::fresh, "waiter 1 1000 1", 9);
    }

    private static void waitersOfTables() {
        read("17: a WAITER told ahead of the TABLE", Edges::fresh, "waiter 1 1 1;table 0 1 1 1 0", 2);
        faulty("17: a WAITER told after the TABLE", Edges::fresh, "table 0 1 1 1 0;waiter 1 1 1", 14);
        faulty("17: no such WAITER", Edges::fresh, "waiter 1 1 1;table 0 1 1 1 1", 27);
        TablesAndTips x = read("17: one who was there and one told", () -> withWaiters(3),
            "table 0 1 1 1 2;waiter 1 1 1;table 0 1 1 1 3", 3);
        Checks.same("17: who was there", x.tableOf(0, 4), 2);
        Checks.same("17: who was told", x.tableOf(1, 4), 3);
    }

    private static final String NO_ROOM = "Terms: what there is no room for can't stand: its word";
    private static final String WORD_WHOLE = "Details: whether there is room is asked when its letters stand whole";

    private static void room() {
        Made threeWaiters = () -> withWaiters(3);
        read("17: room for a fourth WAITER", threeWaiters, "waiter 1 1 1", 1);
        faulty(NO_ROOM, threeWaiters, "waiter 1 1 1;waiter 1 1 1", 13);
        Made sevenTables = () -> after(withWaiters(1), TextEdgesTest::putSevenTables);
        read("17: room for an eighth TABLE", sevenTables, "table 0 1 1 1 0", 1);
        faulty(NO_ROOM, sevenTables, "table 0 1 1 1 0;table 0 1 1 1 0", 16);
        for (String word : new String[] {"waiter", "table"}) {
            faulty(NO_ROOM, Edges::full, word, 0);
            faulty(NO_ROOM, Edges::full, "added 1;" + word + " 1 1 1 1 0", 8);
            faulty(NO_ROOM + " (ahead of its NUMBERS)", Edges::full, word + " 9 9 9 9 9", 0);
            faulty(NO_ROOM + " (ahead of what comes after it)", Edges::full, word + "#", 0);
            for (int n = 1; n < word.length(); n++) {
                String begun = word.substring(0, n);
                faulty(WORD_WHOLE + ": until then the number of elements", Edges::full, begun, n);
                faulty(WORD_WHOLE + ": until then the first that is not as it is", Edges::full, begun + "#", n);
            }
        }
        read("17: there is room for the others", Edges::full, "sharing 1;added 2;numbers 3 4 5", 3);
    }

    private static void putSevenTables(TablesAndTips x) {
        for (int t = 0; t < 7; t++) {
            x.table(0, 1, 1, 1, 0);
        }
    }

    private static void manyItems() {
        StringBuilder items = new StringBuilder("added 0");
        for (int n = 2; n <= 20; n++) {
            items.append(";added ").append(n);
            String letters = items.toString();
            if (letters.length() <= 160) {
                TablesAndTips x = read("17: how many ITEMS", Edges::fresh, letters, n);
                Checks.same("17: the last one told", x.status(4), n);
            }
        }
        String twenty = "added 0;".repeat(20);
        Checks.same("a text of 160", twenty.length(), 160);
        faulty("Terms: the number of elements, of 160 that end too early", Edges::fresh, twenty, 160);
        read("17: twenty ITEMS", Edges::fresh, twenty.substring(0, 159), 20);
        TablesAndTips x = read("17: all 160 elements", Edges::fresh, twenty.substring(0, 158) + "07", 20);
        Checks.same("17: up to the last", x.status(4), 7);
    }

    private static void toldOver() {
        TablesAndTips x = read("Terms: all is told over what there is", Edges::busy,
            "waiter 6 0 7;table 0 9 8 7 3;sharing 0;added 0;numbers 1 2 3;sharing 2", 6);
        Checks.same("Terms: one WAITER more", x.status(1), 4);
        Checks.same("Terms: one TABLE more", x.status(0), 6);
        Checks.same("Terms: the new WAITER", x.waiterOf(3, 0), 6);
        Checks.same("Terms: the new TABLE", x.tableOf(5, 1), 9);
        Checks.same("Terms: who was there stays", x.waiterOf(0, 1), 3);
        Checks.same("Terms: SHARING as it was told last", x.status(3), 2);
        Checks.same("Terms: ADDED as told", x.status(4), 0);
        Checks.same("Terms: NUMBERS as told", x.ask(4, 0), 3);
        Checks.same("Terms: JAR, SEED, evenings stay", x.status(7), 78);
        Checks.same("Terms: evenings stay", x.status(5), 2);
        Checks.same("Terms: what was SAVED stays", x.waiterOf(0, 5), 39);
    }

    private static void orNothing() {
        String told = "waiter 6 0 7;table 0 9 8 7 3;sharing 0;added 0;numbers 1 2 3;";
        faulty("Terms: or nothing", Edges::busy, told, told.length());
        faulty("Terms: or nothing", Edges::busy, told + "sharing 4", told.length() + 8);
        faulty("Terms: or nothing", Edges::busy, told + "waiter 1 1 1", told.length());
        faulty("Terms: or nothing", Edges::busy, told + "sharing 2#", told.length() + 9);
    }

    private static TablesAndTips ofSort(int sort, long more) {
        TablesAndTips x = fresh();
        String letters = "sharing 2";
        x.row(0, sort, letters.length());
        for (int i = 0; i < letters.length(); i++) {
            x.set(0, i, letters.charAt(i) + (i == 3 ? more : 0));
        }
        return x;
    }

    private static void rows() {
        for (int sort = 0; sort < 4; sort++) {
            TablesAndTips x = ofSort(sort, 0);
            does("17: a ROW of letters of SORT " + sort, x, 1, y -> y.house(0));
            Checks.same("17: it was read", x.status(3), 2);
        }
        long[] lost = {1L << 8, 1L << 16, 1L << 32, 1L << 32};
        long[] kept = {1L << 7, 1L << 8, 1L << 16, 1L << 31};
        for (int sort = 0; sort < 4; sort++) {
            does("17: what the ROW keeps is a letter", ofSort(sort, lost[sort]), 1, y -> y.house(0));
            TablesAndTips x = ofSort(sort, kept[sort]);
            Checks.same("17: what the ROW keeps is no letter", x.house(0), -6);
            Checks.same("17: its place", x.fault(), 3);
        }
        does("Details: of longs the lowest 32 bits count", ofSort(3, Long.MIN_VALUE), 1, y -> y.house(0));
        TablesAndTips x = fresh();
        x.row(0, 1, 0);
        Checks.same("17: an empty ROW ends too early", x.house(0), -6);
        Checks.same("17: at 0", x.fault(), 0);
    }

    private static void refusals17() {
        for (int s : NOWHERE) {
            refused("17: -1 no such SHELF", Edges::busy, -1, x -> x.house(s));
        }
        refused("17: -2 GUESTS", Edges::busy, -2, x -> x.house(4));
        refused("17: -3 NOTHING", Edges::busy, -3, x -> x.house(7));
        for (int s = 0; s < 8; s++) {
            int shelf = s;
            TablesAndTips x = after(busy(), y -> text(y, shelf, "added 3"));
            does("17: SHELVES 0 to 7", x, 1, y -> y.house(shelf));
        }
    }

    private static void fault18() {
        tells("18: NONE yet", Edges::fresh, NONE, TablesAndTips::fault);
        tells("18: the latest", Edges::busy, 6, TablesAndTips::fault);
        Made good = () -> read("18: one without a FAULT", Edges::busy, "added 3", 1);
        tells("18: NONE: there was none", good, NONE, TablesAndTips::fault);
        for (int s : new int[] {-1, 8, 4, 7}) {
            Made refused = () -> after(busy(), x -> x.house(s));
            tells("18: of the latest that came to a ROW", refused, 6, TablesAndTips::fault);
        }
        Made later = () -> after(busy(), x -> {
            text(x, 7, "added 3;");
            x.house(7);
        });
        tells("18: a later one", later, 8, TablesAndTips::fault);
        tells("18: it is no part of THE IMAGE", () -> after(later.make(), TablesAndTips::restore), 8,
            TablesAndTips::fault);
    }
}
