/**
 * Tables and tips: what guests give, what waiters get of it, and what comes of that.
 *
 * <p>The face refuses and counts refusals; a House holds what there is and what is given; Outcomes tries
 * things out on a House of its own, so that nothing asked changes anything. Every index, divisor and
 * reference is looked at before it is used: no call can throw.
 */
public final class TablesAndTips {
    public static final int NONE = -1;

    private static final int NOBODY = -1;
    private static final int OTHER = -2;
    private static final int NOTHING = -3;
    private static final int BELOW = -4;
    private static final int BEYOND = -5;
    private static final int WRONG = -6;
    private static final int ROOM = -7;

    /** Where an answer may be below 0, the refusals stand this much further down. */
    private static final int FAR = -1000000;
    /** Where NONE is an answer, NOBODY stands this much further down. */
    private static final int NEAR = -10;

    private static final int TABLES = 8;
    private static final int WAITERS = 4;
    private static final int SHELVES = 8;
    private static final int ELEMENTS = 160;
    private static final int SORTS = 4;
    private static final int REFUSALS = 7;

    // KINDS, by their numbers; the row tells for each the KIND that it is under.
    private static final int GIFT = 0;
    private static final int CUSTOM = 1;
    private static final int ROUNDED = 2;
    private static final int SERVED = 3;
    private static final int NUDGED = 4;
    private static final int SHOWN = 5;
    private static final int GRUDGED = 6;
    private static final int KINDS = 7;
    private static final int[] KIND_ABOVE = {NONE, GIFT, CUSTOM, CUSTOM, GIFT, CUSTOM, SERVED};

    // What there is of a TABLE, as tableOf() numbers it.
    private static final int KIND = 0;
    private static final int BILL = 1;
    private static final int PARTY = 2;
    private static final int A = 3;
    private static final int SERVER = 4;
    private static final int TABLE_PARTS = 5;
    private static final int SERVICE = 5;
    private static final int[] TABLE_LEAST = {0, 1, 1, 0};
    private static final int[] TABLE_MOST = {6, 999, 9, 99};

    // What there is of a WAITER, as waiterOf() numbers it.
    private static final int SKILL = 0;
    private static final int EFFORT = 1;
    private static final int PAINS = 2;
    private static final int POINTS = 3;
    private static final int WANT = 4;
    private static final int SAVED = 5;
    private static final int WAITER_PARTS = 6;
    private static final int TABLES_SERVED = 6;
    private static final int[] WAITER_LEAST = {0, 0, 0, 1, 0};
    private static final int[] WAITER_MOST = {6, 3, 99, 9, 999};

    // What the house asks, as ask() numbers it.
    private static final int SHARING = 0;
    private static final int ADDED = 1;
    private static final int NUMBERS = 2;
    private static final int SETTINGS = 5;
    private static final int[] SETTING_MOST = {3, 30, 99, 99, 99};

    // SHARING but for 0, OWN.
    private static final int POT = 1;
    private static final int BY_POINTS = 2;
    private static final int HALF = 3;

    private static final int EFFORTS = 4;
    private static final int EFFORT_ROWS = 256;
    private static final int POINTS_TOLD = 3;
    private static final int GOOD_SERVICE = 5;
    private static final int ROUNDS = 30;
    private static final int EVENINGS = 30;
    private static final int BODIES_KEPT = 20;

    private final House house = new House();
    private final House image = new House();
    private final Acts acts = new Acts();
    private final Outcomes outcomes = new Outcomes();
    private final Reader reader = new Reader();
    private final Shelf[] shelves = new Shelf[SHELVES];
    private final int[] refusals = new int[REFUSALS + 1];
    private boolean hasImage = false;

    public TablesAndTips() {
        for (int s = 0; s < SHELVES && s < shelves.length; s++) {
            shelves[s] = new Shelf();
        }
    }

    // ---- shelves ----

    public int row(int s, int sort, int n) {
        Shelf shelf = shelfAt(s);
        if (shelf == null) {
            return refuse(NOBODY);
        }
        if (n < 0) {
            return refuse(BELOW);
        }
        if (sort < 0 || sort >= SORTS) {
            return refuse(WRONG);
        }
        if (n > ELEMENTS) {
            return refuse(ROOM);
        }
        shelf.holdRow(sort, n);
        return 1;
    }

    public int set(int s, int i, long v) {
        Shelf shelf = shelfAt(s);
        int no = rowRefusal(shelf);
        if (shelf == null || no != 0) {
            return refuse(no);
        }
        if (!shelf.spans(i, 1)) {
            return refuse(BEYOND);
        }
        shelf.putIn(i, v);
        return 1;
    }

    public int copy(int p, int q, int i, int j, int n) {
        Shelf from = shelfAt(p);
        Shelf to = shelfAt(q);
        if (from == null || to == null) {
            return refuse(NOBODY);
        }
        if (from.hasGuests() || to.hasGuests() || from.differsInSort(to)) {
            return refuse(OTHER);
        }
        if (!from.hasRow() || !to.hasRow()) {
            return refuse(NOTHING);
        }
        if (n < 0) {
            return refuse(BELOW);
        }
        if (!from.spans(i, n) || !to.spans(j, n)) {
            return refuse(BEYOND);
        }
        to.takeFrom(from, i, j, n);
        return 1;
    }

    public long element(int s, int i) {
        Shelf shelf = shelfAt(s);
        return shelf == null || !shelf.hasRow() ? 0 : shelf.longAt(i);
    }

    public int show(int s, int table) {
        Shelf shelf = shelfAt(s);
        if (shelf == null || table != NONE && !house.hasTable(table)) {
            return refuse(NOBODY);
        }
        if (table == NONE) {
            shelf.holdNothing();
            return 0;
        }
        shelf.holdGuests(table);
        return 1;
    }

    public int holds(int s) {
        Shelf shelf = shelfAt(s);
        return shelf == null ? NONE : shelf.held();
    }

    public int says(int s, int kind) {
        Shelf shelf = shelfAt(s);
        if (shelf == null || kind < 0 || kind >= KINDS) {
            return refuse(NOBODY);
        }
        if (shelf.hasRow()) {
            return refuse(OTHER);
        }
        if (!shelf.hasGuests()) {
            return refuse(NOTHING);
        }
        int table = shelf.held();
        if (!isUnder(house.tablePart(table, KIND), kind)) {
            return refuse(OTHER);
        }
        house.reckon();
        return house.saidAt(table, kind);
    }

    // ---- the house ----

    public int waiter(int skill, int pains, int want) {
        return answer(house.addWaiter(skill, pains, want));
    }

    public int table(int kind, int bill, int party, int a, int w) {
        return answer(house.addTable(kind, bill, party, a, w));
    }

    public int tables(int s, int i, int n) {
        Shelf shelf = shelfAt(s);
        int no = rowRefusal(shelf);
        if (shelf == null || no != 0) {
            return refuse(no);
        }
        if (n < 0) {
            return refuse(BELOW);
        }
        if (!shelf.spans(i, n)) {
            return refuse(BEYOND);
        }
        if (n % TABLE_PARTS != 0) {
            return refuse(WRONG);
        }
        int came = 0;
        boolean more = true;
        for (int k = i; k < i + n && more; k += TABLE_PARTS) {
            int bill = shelf.intAt(k + BILL);
            int party = shelf.intAt(k + PARTY);
            int a = shelf.intAt(k + A);
            more = house.addTable(shelf.intAt(k + KIND), bill, party, a, shelf.intAt(k + SERVER)) >= 0;
            came += more ? 1 : 0;
        }
        return came;
    }

    public int serves(int table, int w) {
        if (!house.hasTable(table) || !house.hasWaiter(w)) {
            return refuse(NOBODY);
        }
        int was = house.tablePart(table, SERVER);
        house.setServer(table, w);
        return was;
    }

    public int becomes(int w, int what, int v) {
        if (!house.hasWaiter(w)) {
            return refuse(NOBODY);
        }
        if (what < SKILL || what > WANT) {
            return refuse(BEYOND);
        }
        if (!House.waiterPartMayBe(what, v)) {
            return refuse(WRONG);
        }
        int was = house.waiterPart(w, what);
        house.setWaiterPart(w, what, v);
        return was;
    }

    public int ask(int what, int v) {
        if (!House.settingMayBe(what, v)) {
            return refuse(WRONG);
        }
        int was = house.setting(what);
        house.settle(what, v);
        return was;
    }

    public int tableOf(int table, int what) {
        if (!house.hasTable(table) || what < 0 || what > SERVICE) {
            return refuse(BEYOND);
        }
        return what == SERVICE ? house.serviceAt(table) : house.tablePart(table, what);
    }

    public int waiterOf(int w, int what) {
        if (!house.hasWaiter(w) || what < 0 || what > TABLES_SERVED) {
            return refuse(BEYOND);
        }
        return what == TABLES_SERVED ? house.tablesOfWaiter(w) : house.waiterPart(w, what);
    }

    public int house(int s) {
        Shelf shelf = shelfAt(s);
        int no = rowRefusal(shelf);
        if (shelf == null || no != 0) {
            return refuse(no);
        }
        int items = reader.read(shelf, house);
        if (items == NONE) {
            return refuse(WRONG);
        }
        house.becomeAs(reader.draft());
        return items;
    }

    public int fault() {
        return reader.faultPlace();
    }

    // ---- gifts ----

    public int would(int table) {
        house.reckon();
        return house.hasTable(table) ? house.wouldGiveAt(table) : refuse(NOBODY);
    }

    public int gives(int table) {
        house.reckon();
        return house.hasTable(table) ? house.givenAt(table) : refuse(NOBODY);
    }

    public int all() {
        house.reckon();
        return house.givenByAll();
    }

    public int share(int w, int what) {
        if (!house.hasWaiter(w)) {
            return refuse(NOBODY);
        }
        if (what != 0 && what != 1) {
            return refuse(BEYOND);
        }
        house.reckon();
        return what == 0 ? house.ownOf(w) : house.shareOf(w);
    }

    public int gain(int w, int e) {
        if (!house.hasWaiter(w)) {
            return refuseFar(NOBODY);
        }
        if (e != NONE && !House.waiterPartMayBe(EFFORT, e)) {
            return refuseFar(WRONG);
        }
        return outcomes.gainWith(house, w, e == NONE ? house.waiterPart(w, EFFORT) : e);
    }

    // ---- what comes of it ----

    public int reply(int w) {
        if (!house.hasWaiter(w)) {
            return refuse(NOBODY);
        }
        outcomes.reckonEfforts(house);
        return outcomes.replyNow(w);
    }

    public int rest(int w) {
        if (w != NONE && !house.hasWaiter(w)) {
            return refuse(NOBODY) + NEAR;
        }
        outcomes.reckonEfforts(house);
        int rounds = outcomes.takeTurns();
        return w == NONE ? rounds : outcomes.effortFound(w);
    }

    public int rests(int w) {
        if (w != NONE && !house.hasWaiter(w)) {
            return refuse(NOBODY);
        }
        outcomes.reckonEfforts(house);
        int count = outcomes.findRests();
        if (w == NONE) {
            return count;
        }
        return count == 0 ? refuse(BEYOND) : outcomes.effortFound(w);
    }

    public int best(int w) {
        if (!house.hasWaiter(w)) {
            return refuse(NOBODY);
        }
        outcomes.reckonEfforts(house);
        outcomes.findBest();
        return outcomes.effortFound(w);
    }

    public int points(int w) {
        if (!house.hasWaiter(w)) {
            return refuse(NOBODY);
        }
        return outcomes.findPoints(house) ? outcomes.pointsFound(w) : refuse(BEYOND);
    }

    public int leavers() {
        house.reckon();
        return house.leaverBits();
    }

    public int most(int k, int table) {
        return placed(k, table, false);
    }

    public int even(int k, int table) {
        return placed(k, table, true);
    }

    public int turns(int w, int n) {
        if (!house.hasWaiter(w)) {
            return refuse(NOBODY);
        }
        return n < 0 || n > EVENINGS ? refuse(WRONG) : outcomes.turnsOf(house, w, n);
    }

    public int luck(int w) {
        if (!house.hasWaiter(w)) {
            return refuseFar(NOBODY);
        }
        house.reckon();
        int evenings = house.waiterCount();
        return evenings * house.ownOf(w) - outcomes.turnsOf(house, w, evenings);
    }

    public int worth(int w) {
        return house.hasWaiter(w) ? outcomes.worthOf(house, w) : refuseFar(NOBODY);
    }

    public int raise() {
        return outcomes.leastAdded(house);
    }

    public int judge(int s) {
        Shelf shelf = shelfAt(s);
        int no = toldRefusal(shelf);
        return shelf == null || no != 0 ? refuse(no) : firstWrongEffort(shelf);
    }

    public int told(int s, int w) {
        Shelf shelf = shelfAt(s);
        int no = house.hasWaiter(w) ? toldRefusal(shelf) : NOBODY;
        if (shelf == null || no != 0) {
            return refuseFar(no);
        }
        if (firstWrongEffort(shelf) != NONE) {
            return refuseFar(WRONG);
        }
        return outcomes.gainByTold(house, shelf, w);
    }

    // ---- in truth ----

    public int evening() {
        if (house.waiterCount() == 0) {
            return refuse(BEYOND);
        }
        house.reckon();
        house.saveEvening();
        return house.jar();
    }

    public int guests() {
        house.drawGuests();
        return house.billsOfAll();
    }

    public int seed(int v) {
        return house.changeSeed(v);
    }

    public int act(int table, int act, int x) {
        acts.forget();
        if (!house.hasTable(table)) {
            return 0;
        }
        acts.actFor(house.tablePart(table, KIND), table, house.tablePart(table, A));
        switch (act) {
            case 0:
                return acts.doServe(x);
            case 1:
                return acts.doGive(x);
            case 2:
                return acts.doStay(x);
            default:
                return 0;
        }
    }

    public int trace(int i) {
        return acts.bodyAt(i);
    }

    public int image() {
        image.becomeAs(house);
        hasImage = true;
        return house.tableCount();
    }

    public int restore() {
        if (!hasImage) {
            return refuse(WRONG);
        }
        house.becomeAs(image);
        for (int s = 0; s < SHELVES; s++) {
            Shelf shelf = shelfAt(s);
            if (shelf != null && shelf.hasGuests() && !house.hasTable(shelf.held())) {
                shelf.holdNothing();
            }
        }
        return house.tableCount();
    }

    public int status(int what) {
        switch (what) {
            case 0:
                return house.tableCount();
            case 1:
                return house.waiterCount();
            case 2:
                return house.billsOfAll();
            case 3:
                return house.setting(SHARING);
            case 4:
                return house.setting(ADDED);
            case 5:
                return house.evenings();
            case 6:
                return house.jar();
            case 7:
                return house.seedNow();
            case 8:
                return acts.ran();
            default:
                return what > 10 && what <= 10 + REFUSALS ? at(refusals, what - 10) : NONE;
        }
    }

    // ---- what several of the face share ----

    private int refuse(int code) {
        put(refusals, -code, at(refusals, -code) + 1);
        return code;
    }

    private int refuseFar(int code) {
        return refuse(code) + FAR;
    }

    /** What a House answered: a number of something new, or a refusal, which is counted. */
    private int answer(int number) {
        return number < 0 ? refuse(number) : number;
    }

    private Shelf shelfAt(int s) {
        return s >= 0 && s < shelves.length ? shelves[s] : null;
    }

    /** Why the SHELF can't be taken for a ROW; 0 if it can. */
    private static int rowRefusal(Shelf shelf) {
        if (shelf == null) {
            return NOBODY;
        }
        if (shelf.hasGuests()) {
            return OTHER;
        }
        return shelf.hasRow() ? 0 : NOTHING;
    }

    /** Why the SHELF can't be taken for a told row of EFFORTS; 0 if it can. */
    private int toldRefusal(Shelf shelf) {
        int no = rowRefusal(shelf);
        if (shelf == null || no != 0) {
            return no;
        }
        return shelf.spans(0, house.waiterCount()) ? 0 : BEYOND;
    }

    private int firstWrongEffort(Shelf shelf) {
        for (int w = 0; w < house.waiterCount(); w++) {
            if (!House.waiterPartMayBe(EFFORT, shelf.intAt(w))) {
                return w;
            }
        }
        return NONE;
    }

    private int placed(int k, int table, boolean even) {
        if (table != NONE && !house.hasTable(table)) {
            return refuse(NOBODY);
        }
        if (k < 1 || k > TABLES) {
            return refuse(WRONG);
        }
        if (!outcomes.findWay(house, k, even)) {
            return refuse(BEYOND);
        }
        return table == NONE ? outcomes.valueOfWay() : outcomes.serverInWay(table);
    }

    private static boolean isUnder(int kind, int wanted) {
        int above = kind;
        for (int step = 0; step < KINDS && above != NONE; step++) {
            if (above == wanted) {
                return true;
            }
            above = at(KIND_ABOVE, above);
        }
        return false;
    }

    /** All rows of ints are read by this and written by the next, so that no index goes unlooked at. */
    private static int at(int[] row, int i) {
        return i >= 0 && i < row.length ? row[i] : 0;
    }

    private static void put(int[] row, int i, int v) {
        if (i >= 0 && i < row.length) {
            row[i] = v;
        }
    }

    private static void copyAll(int[] from, int[] to) {
        for (int i = 0; i < from.length && i < to.length; i++) {
            to[i] = from[i];
        }
    }

    private static int hundredths(int sum, int part) {
        return sum * part / 100;
    }

    private static int power(int base, int n) {
        int product = 1;
        for (int i = 0; i < n; i++) {
            product *= base;
        }
        return product;
    }

    /** The i-th of n digits (the first counts most) of a number, so that numbers in order are rows in order. */
    private static int digit(int number, int base, int n, int i) {
        int below = power(base, n - 1 - i);
        return base > 0 && below > 0 ? number / below % base : 0;
    }

    /** What a SHELF holds. Its elements are made once and used for every ROW that it comes to hold. */
    private static final class Shelf {
        private static final int ROW_OF_SORT = 100;

        private final long[] elements = new long[ELEMENTS];
        private int held = NONE;
        private int size = 0;

        /** As holds() answers it: NONE, the number of a table, or 100 and the SORT. */
        int held() {
            return held;
        }

        boolean hasRow() {
            return held >= ROW_OF_SORT;
        }

        boolean hasGuests() {
            return held != NONE && held < ROW_OF_SORT;
        }

        boolean differsInSort(Shelf other) {
            return hasRow() && other.hasRow() && held != other.held;
        }

        void holdNothing() {
            held = NONE;
            size = 0;
        }

        void holdGuests(int table) {
            held = table;
            size = 0;
        }

        void holdRow(int sort, int n) {
            held = ROW_OF_SORT + sort;
            size = n;
            for (int i = 0; i < elements.length; i++) {
                elements[i] = 0;
            }
        }

        boolean spans(int i, int n) {
            return i >= 0 && n >= 0 && n <= size && i <= size - n;
        }

        long longAt(int i) {
            return i >= 0 && i < size && i < elements.length ? elements[i] : 0;
        }

        int intAt(int i) {
            return (int) longAt(i);
        }

        void putIn(int i, long v) {
            if (i >= 0 && i < size && i < elements.length) {
                elements[i] = lowestBits(v);
            }
        }

        private long lowestBits(long v) {
            switch (held - ROW_OF_SORT) {
                case 0:
                    return (byte) v;
                case 1:
                    return (short) v;
                case 2:
                    return (int) v;
                default:
                    return v;
            }
        }

        /** Goes from the end that is not overwritten first, as a ROW may be copied onto itself. */
        void takeFrom(Shelf from, int i, int j, int n) {
            boolean upwards = j <= i;
            for (int k = 0; k < n; k++) {
                int step = upwards ? k : n - 1 - k;
                putIn(j + step, from.longAt(i + step));
            }
        }
    }

    /** What there is: TABLES, WAITERS, what is asked, what was saved; and the GIFTS that follow from it. */
    private static final class House {
        private final int[] tables = new int[TABLES * TABLE_PARTS];
        private final int[] waiters = new int[WAITERS * WAITER_PARTS];
        private final int[] settings = {0, 0, 10, 15, 20};
        private int tableCount = 0;
        private int waiterCount = 0;
        private int evenings = 0;
        private int jar = 0;
        private int seed = 1;
        private final int[] given = new int[TABLES];

        /** What is given is no part of it: it follows from the rest. */
        void becomeAs(House other) {
            copyAll(other.tables, tables);
            copyAll(other.waiters, waiters);
            copyAll(other.settings, settings);
            tableCount = other.tableCount;
            waiterCount = other.waiterCount;
            evenings = other.evenings;
            jar = other.jar;
            seed = other.seed;
        }

        int tableCount() {
            return tableCount;
        }

        int waiterCount() {
            return waiterCount;
        }

        int evenings() {
            return evenings;
        }

        int jar() {
            return jar;
        }

        int seedNow() {
            return seed;
        }

        int changeSeed(int v) {
            int was = seed;
            seed = v;
            return was;
        }

        boolean hasTable(int table) {
            return table >= 0 && table < tableCount;
        }

        boolean hasWaiter(int w) {
            return w >= 0 && w < waiterCount;
        }

        static boolean waiterPartMayBe(int what, int v) {
            return what >= SKILL && what <= WANT && v >= at(WAITER_LEAST, what) && v <= at(WAITER_MOST, what);
        }

        static boolean settingMayBe(int what, int v) {
            return what >= 0 && what < SETTINGS && v >= 0 && v <= at(SETTING_MOST, what);
        }

        boolean tablePartMayBe(int what, int v) {
            if (what == SERVER) {
                return hasWaiter(v);
            }
            return what >= KIND && what <= A && v >= at(TABLE_LEAST, what) && v <= at(TABLE_MOST, what);
        }

        boolean hasRoomForTable() {
            return tableCount < TABLES;
        }

        boolean hasRoomForWaiter() {
            return waiterCount < WAITERS;
        }

        /** The number of the new WAITER, or a refusal. */
        int addWaiter(int skill, int pains, int want) {
            if (!waiterPartMayBe(SKILL, skill) || !waiterPartMayBe(PAINS, pains) || !waiterPartMayBe(WANT, want)) {
                return WRONG;
            }
            if (!hasRoomForWaiter()) {
                return ROOM;
            }
            int w = waiterCount;
            waiterCount++;
            setWaiterPart(w, SKILL, skill);
            setWaiterPart(w, EFFORT, 0);
            setWaiterPart(w, PAINS, pains);
            setWaiterPart(w, POINTS, 1);
            setWaiterPart(w, WANT, want);
            setWaiterPart(w, SAVED, 0);
            return w;
        }

        /** The number of the new TABLE, or a refusal. */
        int addTable(int kind, int bill, int party, int a, int w) {
            if (!tablePartMayBe(KIND, kind) || !hasWaiter(w)) {
                return NOBODY;
            }
            if (!tablePartMayBe(BILL, bill) || !tablePartMayBe(PARTY, party) || !tablePartMayBe(A, a)) {
                return WRONG;
            }
            if (!hasRoomForTable()) {
                return ROOM;
            }
            int table = tableCount;
            tableCount++;
            setGuests(table, kind, bill, party, a);
            setServer(table, w);
            return table;
        }

        int tablePart(int table, int what) {
            return hasTable(table) && what >= 0 && what < TABLE_PARTS ? at(tables, table * TABLE_PARTS + what) : 0;
        }

        private void setTablePart(int table, int what, int v) {
            put(tables, table * TABLE_PARTS + what, v);
        }

        private void setGuests(int table, int kind, int bill, int party, int a) {
            setTablePart(table, KIND, kind);
            setTablePart(table, BILL, bill);
            setTablePart(table, PARTY, party);
            setTablePart(table, A, a);
        }

        void setServer(int table, int w) {
            setTablePart(table, SERVER, w);
        }

        int waiterPart(int w, int what) {
            return hasWaiter(w) && what >= 0 && what < WAITER_PARTS ? at(waiters, w * WAITER_PARTS + what) : 0;
        }

        void setWaiterPart(int w, int what, int v) {
            put(waiters, w * WAITER_PARTS + what, v);
        }

        int setting(int what) {
            return at(settings, what);
        }

        void settle(int what, int v) {
            put(settings, what, v);
        }

        int tablesOfWaiter(int w) {
            int count = 0;
            for (int t = 0; t < tableCount; t++) {
                count += tablePart(t, SERVER) == w ? 1 : 0;
            }
            return count;
        }

        int billsOfAll() {
            int sum = 0;
            for (int t = 0; t < tableCount; t++) {
                sum += tablePart(t, BILL);
            }
            return sum;
        }

        int serviceOf(int w) {
            return waiterPart(w, SKILL) + waiterPart(w, EFFORT);
        }

        int serviceAt(int table) {
            return serviceOf(tablePart(table, SERVER));
        }

        private int lacking(int service) {
            return Math.max(GOOD_SERVICE - service, 0);
        }

        private int middleNumber() {
            int x = at(settings, NUMBERS);
            int y = at(settings, NUMBERS + 1);
            int z = at(settings, NUMBERS + 2);
            return Math.max(Math.min(x, y), Math.min(Math.max(x, y), z));
        }

        /** What the GUESTS would GIVE with such a SERVICE, if the table ahead GIVES so much (0: none is ahead). */
        private int wouldGive(int table, int service, int ahead) {
            int bill = tablePart(table, BILL);
            int a = tablePart(table, A);
            int custom = hundredths(bill, a);
            int served = custom + service * tablePart(table, PARTY);
            switch (tablePart(table, KIND)) {
                case GIFT:
                    return a;
                case ROUNDED:
                    return roundedUp(bill + custom) - bill;
                case SERVED:
                    return served;
                case NUDGED:
                    return hundredths(bill, middleNumber());
                case SHOWN:
                    return Math.max(custom, ahead);
                case GRUDGED:
                    return Math.max(served - a * lacking(service), 0);
                default:
                    return custom;
            }
        }

        private static int roundedUp(int sum) {
            return (sum + 9) / 10 * 10;
        }

        /** What a TABLE GIVES with such a SERVICE, if the one ahead of it GIVES so much. */
        int giftWith(int table, int service, int ahead) {
            int added = hundredths(tablePart(table, BILL), setting(ADDED));
            return added + Math.max(wouldGive(table, service, ahead) - added, 0);
        }

        /**
         * Finds what all TABLES GIVE as things stand; who asks for what is given, or follows from it, calls this
         * first. It goes from the first TABLE on, as one may go by what the one ahead of it GIVES.
         */
        void reckon() {
            int ahead = 0;
            for (int t = 0; t < tableCount; t++) {
                ahead = giftWith(t, serviceAt(t), ahead);
                put(given, t, ahead);
            }
        }

        int givenAt(int table) {
            return hasTable(table) ? at(given, table) : 0;
        }

        int wouldGiveAt(int table) {
            return wouldGive(table, serviceAt(table), givenAt(table - 1));
        }

        /** What the GUESTS of a TABLE say, taken for ones of a KIND. */
        int saidAt(int table, int kind) {
            int bill = tablePart(table, BILL);
            int a = tablePart(table, A);
            switch (kind) {
                case GIFT:
                    return a;
                case CUSTOM:
                    return hundredths(bill, a);
                case ROUNDED:
                    return bill % 10;
                case SERVED:
                    return tablePart(table, PARTY);
                case NUDGED:
                    return middleNumber();
                case SHOWN:
                    return givenAt(table - 1);
                default:
                    return lacking(serviceAt(table));
            }
        }

        int givenByAll() {
            int sum = 0;
            for (int t = 0; t < tableCount; t++) {
                sum += at(given, t);
            }
            return sum;
        }

        int ownOf(int w) {
            int sum = 0;
            for (int t = 0; t < tableCount; t++) {
                sum += tablePart(t, SERVER) == w ? at(given, t) : 0;
            }
            return sum;
        }

        private int potOf() {
            return waiterCount > 0 ? givenByAll() / waiterCount : 0;
        }

        private int byPointsOf(int w) {
            int points = 0;
            for (int v = 0; v < waiterCount; v++) {
                points += waiterPart(v, POINTS);
            }
            return points > 0 ? givenByAll() * waiterPart(w, POINTS) / points : 0;
        }

        int shareOf(int w) {
            switch (setting(SHARING)) {
                case POT:
                    return potOf();
                case BY_POINTS:
                    return byPointsOf(w);
                case HALF:
                    return ownOf(w) / 2 + potOf() / 2;
                default:
                    return ownOf(w);
            }
        }

        int gainOf(int w) {
            return shareOf(w) - waiterPart(w, PAINS) * waiterPart(w, EFFORT) * tablesOfWaiter(w);
        }

        int leaverBits() {
            int bits = 0;
            for (int w = 0; w < waiterCount; w++) {
                bits |= shareOf(w) < waiterPart(w, WANT) ? 1 << w : 0;
            }
            return bits;
        }

        void saveEvening() {
            int left = givenByAll();
            for (int w = 0; w < waiterCount; w++) {
                int share = shareOf(w);
                left -= share;
                setWaiterPart(w, SAVED, waiterPart(w, SAVED) + share);
            }
            jar += left;
            evenings++;
        }

        private int drawBelow(int n) {
            seed = seed * 1103515245 + 12345;
            return n > 0 ? (seed >>> 16) % n : 0;
        }

        void drawGuests() {
            for (int t = 0; t < tableCount; t++) {
                int kind = drawBelow(KINDS);
                int bill = drawBelow(99) + 1;
                int party = drawBelow(6) + 1;
                int a = drawBelow(25);
                setGuests(t, kind, bill, party, a);
            }
        }
    }

    /**
     * The ACTS of GUESTS and their TRACE. Of each act the bodies begin from the GUESTS' KIND upwards, and what
     * they make of an answer is made in the other order: so each act is told in one function, whatever the KIND.
     */
    private static final class Acts {
        private final int[] bodies = new int[BODIES_KEPT];
        private int ran = 0;
        private int kind = GIFT;
        private int m = 0;
        private int k = 0;

        void forget() {
            ran = 0;
        }

        /** For whom the next act is: the GUESTS' KIND, the number of their table, their a. */
        void actFor(int kindOfGuests, int table, int a) {
            kind = kindOfGuests;
            m = table;
            k = a;
        }

        int ran() {
            return ran;
        }

        int bodyAt(int i) {
            return i >= 0 && i < ran && i < bodies.length ? bodies[i] : NONE;
        }

        private void began(int body) {
            put(bodies, ran, body);
            ran++;
        }

        int doServe(int x) {
            boolean isCustom = isUnder(kind, CUSTOM);
            if (kind == GRUDGED) {
                began(51);
            }
            if (kind == SHOWN) {
                began(70);
            }
            if (isCustom) {
                began(20);
            }
            began(10);
            int served = x + m + (isCustom ? k : 0);
            if (kind == SHOWN) {
                return served * 2;
            }
            return kind == GRUDGED ? served - m : served;
        }

        int doGive(int x) {
            int asked = x;
            if (kind == ROUNDED) {
                began(30);
            }
            if (kind == SHOWN) {
                began(71);
                asked -= k;
            }
            if (isUnder(kind, SERVED)) {
                began(40);
                asked++;
            }
            began(11);
            int given = doServe(asked) * 2;
            return kind == ROUNDED ? given * 3 : given;
        }

        int doStay(int x) {
            if (kind == GRUDGED) {
                began(50);
            }
            if (kind == NUDGED) {
                began(60);
            }
            began(12);
            int given = doGive(x);
            int stayed = given ^ doServe(x - k);
            if (kind == GRUDGED) {
                return -stayed;
            }
            return kind == NUDGED ? stayed ^ 5 : stayed;
        }
    }

    /**
     * What comes of a House. Each question is tried out on a House of its own; rows of EFFORTS and of POINTS
     * are numbers whose digits they are, so that the first row is the least number.
     */
    private static final class Outcomes {
        private final House trial = new House();
        private final int[] gains = new int[EFFORT_ROWS * WAITERS];
        /** The row of the EFFORTS as they are, and the row that the latest search came to. */
        private int rowNow = 0;
        private int rowFound = 0;
        private final int[] own = new int[WAITERS];
        private final int[] taken = new int[WAITERS];
        private final int[] stillToCome = new int[TABLES + 1];
        private final int[] wayInHand = new int[TABLES];
        private final int[] way = new int[TABLES];
        private boolean wayFound = false;
        private int wayValue = 0;

        int gainWith(House h, int w, int effort) {
            trial.becomeAs(h);
            trial.setWaiterPart(w, EFFORT, effort);
            trial.reckon();
            return trial.gainOf(w);
        }

        int gainByTold(House h, Shelf efforts, int w) {
            trial.becomeAs(h);
            for (int v = 0; v < trial.waiterCount(); v++) {
                trial.setWaiterPart(v, EFFORT, efforts.intAt(v));
            }
            trial.reckon();
            return trial.gainOf(w);
        }

        // ---- rows of EFFORTS: reckonEfforts() goes ahead of each question of them ----

        /** Finds the GAINS by each row of EFFORTS, and which row there is now. */
        void reckonEfforts(House h) {
            trial.becomeAs(h);
            rowNow = 0;
            for (int w = 0; w < trial.waiterCount(); w++) {
                rowNow = rowNow * EFFORTS + h.waiterPart(w, EFFORT);
            }
            int rows = effortRows();
            for (int row = 0; row < rows; row++) {
                for (int w = 0; w < trial.waiterCount(); w++) {
                    trial.setWaiterPart(w, EFFORT, effortIn(row, w));
                }
                trial.reckon();
                for (int w = 0; w < trial.waiterCount(); w++) {
                    put(gains, row * WAITERS + w, trial.gainOf(w));
                }
            }
        }

        private int effortRows() {
            return power(EFFORTS, trial.waiterCount());
        }

        private int effortIn(int row, int w) {
            return digit(row, EFFORTS, trial.waiterCount(), w);
        }

        private int withEffort(int row, int w, int effort) {
            return row + (effort - effortIn(row, w)) * power(EFFORTS, trial.waiterCount() - 1 - w);
        }

        private int gainIn(int row, int w) {
            return at(gains, row * WAITERS + w);
        }

        private int replyIn(int row, int w) {
            int reply = 0;
            for (int e = 1; e < EFFORTS; e++) {
                if (gainIn(withEffort(row, w, e), w) > gainIn(withEffort(row, w, reply), w)) {
                    reply = e;
                }
            }
            return reply;
        }

        int replyNow(int w) {
            return replyIn(rowNow, w);
        }

        /** REST; the row found is that of the EFFORTS then, be it at REST or not. */
        int takeTurns() {
            rowFound = rowNow;
            for (int round = 0; round < ROUNDS; round++) {
                int ahead = rowFound;
                for (int w = 0; w < trial.waiterCount(); w++) {
                    rowFound = withEffort(rowFound, w, replyIn(rowFound, w));
                }
                if (rowFound == ahead) {
                    return round;
                }
            }
            return NONE;
        }

        /** How many rows REST; the first of them is the row found. */
        int findRests() {
            int count = 0;
            int rows = effortRows();
            for (int row = 0; row < rows; row++) {
                if (rowRests(row)) {
                    rowFound = count == 0 ? row : rowFound;
                    count++;
                }
            }
            return count;
        }

        private boolean rowRests(int row) {
            for (int w = 0; w < trial.waiterCount(); w++) {
                if (gainIn(withEffort(row, w, replyIn(row, w)), w) > gainIn(row, w)) {
                    return false;
                }
            }
            return true;
        }

        /** The row of the greatest sum of GAINS is the row found. */
        void findBest() {
            rowFound = 0;
            int rows = effortRows();
            for (int row = 1; row < rows; row++) {
                if (sumOfGains(row) > sumOfGains(rowFound)) {
                    rowFound = row;
                }
            }
        }

        private int sumOfGains(int row) {
            int sum = 0;
            for (int w = 0; w < trial.waiterCount(); w++) {
                sum += gainIn(row, w);
            }
            return sum;
        }

        int effortFound(int w) {
            return effortIn(rowFound, w);
        }

        // ---- points ----

        /** Whether there are POINTS by which NONE LEAVES; the first such row is the row found. */
        boolean findPoints(House h) {
            trial.becomeAs(h);
            trial.settle(SHARING, BY_POINTS);
            trial.reckon();
            int rows = power(POINTS_TOLD, trial.waiterCount());
            for (int row = 0; row < rows; row++) {
                rowFound = row;
                for (int w = 0; w < trial.waiterCount(); w++) {
                    trial.setWaiterPart(w, POINTS, pointsFound(w));
                }
                if (trial.leaverBits() == 0) {
                    return true;
                }
            }
            return false;
        }

        int pointsFound(int w) {
            return digit(rowFound, POINTS_TOLD, trial.waiterCount(), w) + 1;
        }

        // ---- which tables whom ----

        /** Whether each table can have a WAITER, no one more than k; the way for MOST, or for EVEN, is kept. */
        boolean findWay(House h, int k, boolean even) {
            trial.becomeAs(h);
            wayFound = false;
            wayValue = 0;
            for (int w = 0; w < WAITERS; w++) {
                put(own, w, 0);
                put(taken, w, 0);
            }
            reckonStillToCome();
            placeFrom(0, 0, k, even);
            return wayFound;
        }

        /** The most that each TABLE and the ones after it could GIVE together, whoever serves them. */
        private void reckonStillToCome() {
            put(stillToCome, trial.tableCount(), 0);
            int highest = 0;
            for (int t = 0; t < trial.tableCount(); t++) {
                int ahead = highest;
                highest = 0;
                for (int w = 0; w < trial.waiterCount(); w++) {
                    highest = Math.max(highest, trial.giftWith(t, trial.serviceOf(w), ahead));
                }
                put(stillToCome, t, highest);
            }
            for (int t = trial.tableCount() - 1; t >= 0; t--) {
                put(stillToCome, t, at(stillToCome, t) + at(stillToCome, t + 1));
            }
        }

        /** Tries all WAITERS at a table and at the ones after it; it goes no deeper than there are TABLES. */
        private void placeFrom(int table, int ahead, int k, boolean even) {
            if (table >= TABLES || table >= trial.tableCount()) {
                keepIfBetter(even);
                return;
            }
            if (isHopeless(table, even)) {
                return;
            }
            for (int w = 0; w < trial.waiterCount(); w++) {
                if (at(taken, w) < k) {
                    int gift = trial.giftWith(table, trial.serviceOf(w), ahead);
                    put(wayInHand, table, w);
                    put(taken, w, at(taken, w) + 1);
                    put(own, w, at(own, w) + gift);
                    placeFrom(table + 1, gift, k, even);
                    put(taken, w, at(taken, w) - 1);
                    put(own, w, at(own, w) - gift);
                }
            }
        }

        /**
         * Whether no way on from here could be kept, as there may be 65,536 of them: for MOST, if even the highest
         * gifts would not do; for EVEN, as the least OWN can't be above an even part of all that may come.
         */
        private boolean isHopeless(int table, boolean even) {
            int count = trial.waiterCount();
            if (!wayFound || count <= 0) {
                return false;
            }
            int atMost = sumOfOwn() + at(stillToCome, table);
            if (!even) {
                return atMost <= wayValue;
            }
            return wayValue == 0 || greatestOwn() - atMost / count >= wayValue;
        }

        /** Ways come in the order of their rows, so that of several the first is kept. */
        private void keepIfBetter(boolean even) {
            int value = even ? greatestOwn() - leastOwn() : sumOfOwn();
            if (wayFound && (even ? value >= wayValue : value <= wayValue)) {
                return;
            }
            wayFound = true;
            wayValue = value;
            copyAll(wayInHand, way);
        }

        private int sumOfOwn() {
            int sum = 0;
            for (int w = 0; w < trial.waiterCount(); w++) {
                sum += at(own, w);
            }
            return sum;
        }

        private int greatestOwn() {
            int greatest = at(own, 0);
            for (int w = 1; w < trial.waiterCount(); w++) {
                greatest = Math.max(greatest, at(own, w));
            }
            return greatest;
        }

        private int leastOwn() {
            int least = at(own, 0);
            for (int w = 1; w < trial.waiterCount(); w++) {
                least = Math.min(least, at(own, w));
            }
            return least;
        }

        int valueOfWay() {
            return wayValue;
        }

        int serverInWay(int table) {
            return at(way, table);
        }

        // ---- evenings, worth, raise ----

        int turnsOf(House h, int w, int n) {
            trial.becomeAs(h);
            int count = h.waiterCount();
            int sum = 0;
            for (int e = 0; e < n && count > 0; e++) {
                for (int t = 0; t < h.tableCount(); t++) {
                    trial.setServer(t, (h.tablePart(t, SERVER) + e) % count);
                }
                trial.reckon();
                sum += trial.ownOf(w);
            }
            return sum;
        }

        /** SKILL 6 goes by 7 here, which no WAITER can be given. */
        int worthOf(House h, int w) {
            trial.becomeAs(h);
            trial.reckon();
            int now = trial.givenByAll();
            trial.setWaiterPart(w, SKILL, h.waiterPart(w, SKILL) + 1);
            trial.reckon();
            return trial.givenByAll() - now;
        }

        int leastAdded(House h) {
            trial.becomeAs(h);
            for (int added = 0; added <= at(SETTING_MOST, ADDED); added++) {
                trial.settle(ADDED, added);
                trial.reckon();
                if (trial.leaverBits() == 0) {
                    return added;
                }
            }
            return NONE;
        }
    }

    /** Reads a HOUSE from a ROW of letters onto a draft, so that a text with a FAULT changes nothing. */
    private static final class Reader {
        private static final int WAITER_ITEM = 0;
        private static final int TABLE_ITEM = 1;
        private static final int SHARING_ITEM = 2;
        private static final int ADDED_ITEM = 3;
        private static final int NUMBERS_ITEM = 4;
        private static final int[] NUMBERS_OF_ITEM = {3, 5, 1, 1, 3};
        private static final int MOST_NUMBERS = 5;
        private static final int MOST_DIGITS = 3;

        private final House draft = new House();
        private final int[] numbers = new int[MOST_NUMBERS];
        private int place = 0;
        private int fault = NONE;

        House draft() {
            return draft;
        }

        int faultPlace() {
            return fault;
        }

        /** How many ITEMS were read over what there is; NONE if there is a FAULT. */
        int read(Shelf text, House there) {
            draft.becomeAs(there);
            place = 0;
            fault = NONE;
            int items = 0;
            boolean more = true;
            while (more && items < ELEMENTS) {
                if (!readItem(text)) {
                    return NONE;
                }
                items++;
                more = text.spans(place, 1);
                if (more && !readSign(text, ';')) {
                    return NONE;
                }
            }
            return items;
        }

        private boolean faultAt(int where) {
            fault = where;
            return false;
        }

        private boolean readItem(Shelf text) {
            int item = itemBy(text.intAt(place));
            if (item == NONE) {
                return faultAt(place);
            }
            int start = place;
            if (!readWord(text, wordOf(item))) {
                return false;
            }
            if (!hasRoomFor(item)) {
                return faultAt(start);
            }
            for (int j = 0; j < at(NUMBERS_OF_ITEM, item); j++) {
                if (!readSign(text, ' ') || !readNumber(text, item, j)) {
                    return false;
                }
            }
            tell(item);
            return true;
        }

        /** The words all begin with letters of their own. */
        private static int itemBy(int letter) {
            for (int item = WAITER_ITEM; item <= NUMBERS_ITEM; item++) {
                if (letter == letterAt(wordOf(item), 0)) {
                    return item;
                }
            }
            return NONE;
        }

        private static String wordOf(int item) {
            switch (item) {
                case WAITER_ITEM:
                    return "waiter";
                case TABLE_ITEM:
                    return "table";
                case SHARING_ITEM:
                    return "sharing";
                case ADDED_ITEM:
                    return "added";
                default:
                    return "numbers";
            }
        }

        private static int letterAt(String word, int i) {
            return i >= 0 && i < word.length() ? word.charAt(i) : NONE;
        }

        private boolean readWord(Shelf text, String word) {
            for (int i = 0; i < word.length(); i++) {
                if (!readSign(text, letterAt(word, i))) {
                    return false;
                }
            }
            return true;
        }

        /** At the text's end there is 0, which is no sign: then the FAULT is the number of elements. */
        private boolean readSign(Shelf text, int sign) {
            if (text.intAt(place) != sign) {
                return faultAt(place);
            }
            place++;
            return true;
        }

        private boolean readNumber(Shelf text, int item, int j) {
            int start = place;
            int v = 0;
            while (place < start + MOST_DIGITS && isDigit(text.intAt(place))) {
                v = v * 10 + text.intAt(place) - '0';
                place++;
            }
            if (place == start || !mayBe(item, j, v)) {
                return faultAt(start);
            }
            put(numbers, j, v);
            return true;
        }

        private static boolean isDigit(int letter) {
            return letter >= '0' && letter <= '9';
        }

        private boolean hasRoomFor(int item) {
            if (item == WAITER_ITEM) {
                return draft.hasRoomForWaiter();
            }
            return item != TABLE_ITEM || draft.hasRoomForTable();
        }

        private boolean mayBe(int item, int j, int v) {
            switch (item) {
                case WAITER_ITEM:
                    return House.waiterPartMayBe(waiterPartTold(j), v);
                case TABLE_ITEM:
                    return draft.tablePartMayBe(j, v);
                default:
                    return House.settingMayBe(settingTold(item, j), v);
            }
        }

        private static int waiterPartTold(int j) {
            return j == 0 ? SKILL : j == 1 ? PAINS : WANT;
        }

        private static int settingTold(int item, int j) {
            if (item == SHARING_ITEM) {
                return SHARING;
            }
            return item == ADDED_ITEM ? ADDED : NUMBERS + j;
        }

        private int number(int j) {
            return at(numbers, j);
        }

        private void tell(int item) {
            if (item == WAITER_ITEM) {
                draft.addWaiter(number(0), number(1), number(2));
            } else if (item == TABLE_ITEM) {
                draft.addTable(number(0), number(1), number(2), number(3), number(4));
            } else {
                for (int j = 0; j < at(NUMBERS_OF_ITEM, item); j++) {
                    draft.settle(settingTold(item, j), number(j));
                }
            }
        }
    }
}
