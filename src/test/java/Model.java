import java.util.ArrayList;
import java.util.Arrays;
import java.util.List;
import java.util.regex.Matcher;
import java.util.regex.Pattern;

/**
 * The document once more, told as straight as may be and in another way than the program: states are copied,
 * everything is reckoned anew, all ways are listed, texts are looked at by a pattern, ACTS are classes.
 */
final class Model {
    private static final int[][] TABLE_BOUNDS = {{0, 6}, {1, 999}, {1, 9}, {0, 99}};
    private static final int[][] WAITER_BOUNDS = {{0, 6}, {0, 3}, {0, 99}, {1, 9}, {0, 999}};
    private static final int[][] ASK_BOUNDS = {{0, 3}, {0, 30}, {0, 99}, {0, 99}, {0, 99}};

    /** What an IMAGE has. */
    private static final class State {
        final List<int[]> tables = new ArrayList<>();
        final List<int[]> waiters = new ArrayList<>();
        int[] ask = {0, 0, 10, 15, 20};
        int seed = 1;
        int evenings;
        int jar;

        State copy() {
            State c = new State();
            for (int[] t : tables) {
                c.tables.add(t.clone());
            }
            for (int[] w : waiters) {
                c.waiters.add(w.clone());
            }
            c.ask = ask.clone();
            c.seed = seed;
            c.evenings = evenings;
            c.jar = jar;
            return c;
        }

        int service(int t) {
            int[] w = waiters.get(tables.get(t)[4]);
            return w[0] + w[1];
        }

        int custom(int t) {
            return tables.get(t)[1] * tables.get(t)[3] / 100;
        }

        int middle() {
            int[] sorted = {ask[2], ask[3], ask[4]};
            Arrays.sort(sorted);
            return sorted[1];
        }

        int would(int t) {
            int[] g = tables.get(t);
            switch (g[0]) {
                case 0:
                    return g[3];
                case 1:
                    return custom(t);
                case 2: {
                    int sum = custom(t);
                    while ((sum + g[1]) % 10 != 0) {
                        sum++;
                    }
                    return sum;
                }
                case 3:
                    return custom(t) + service(t) * g[2];
                case 4:
                    return g[1] * middle() / 100;
                case 5:
                    return t == 0 ? custom(t) : Math.max(custom(t), gives(t - 1));
                default: {
                    int sum = custom(t) + service(t) * g[2];
                    for (int q = service(t); q < 5; q++) {
                        sum -= g[3];
                    }
                    return sum < 0 ? 0 : sum;
                }
            }
        }

        int gives(int t) {
            int would = would(t);
            int added = tables.get(t)[1] * ask[1] / 100;
            return would > added ? added + (would - added) : added;
        }

        int all() {
            int sum = 0;
            for (int t = 0; t < tables.size(); t++) {
                sum += gives(t);
            }
            return sum;
        }

        int own(int w) {
            int sum = 0;
            for (int t = 0; t < tables.size(); t++) {
                if (tables.get(t)[4] == w) {
                    sum += gives(t);
                }
            }
            return sum;
        }

        int count(int w) {
            int n = 0;
            for (int[] t : tables) {
                if (t[4] == w) {
                    n++;
                }
            }
            return n;
        }

        int share(int w) {
            int pot = all() / waiters.size();
            if (ask[0] == 0) {
                return own(w);
            }
            if (ask[0] == 1) {
                return pot;
            }
            if (ask[0] == 3) {
                return own(w) / 2 + pot / 2;
            }
            int points = 0;
            for (int[] v : waiters) {
                points += v[3];
            }
            return all() * waiters.get(w)[3] / points;
        }

        int gain(int w) {
            return share(w) - waiters.get(w)[2] * waiters.get(w)[1] * count(w);
        }

        int gain(int w, int effort) {
            State c = copy();
            c.waiters.get(w)[1] = effort;
            return c.gain(w);
        }

        int reply(int w) {
            int best = 0;
            for (int e = 3; e >= 0; e--) {
                boolean atLeast = true;
                for (int f = 0; f < 4; f++) {
                    atLeast &= gain(w, e) >= gain(w, f);
                }
                if (atLeast) {
                    best = e;
                }
            }
            return best;
        }

        State with(int part, List<Integer> row) {
            State c = copy();
            for (int w = 0; w < row.size(); w++) {
                c.waiters.get(w)[part] = row.get(w);
            }
            return c;
        }

        boolean rests() {
            for (int w = 0; w < waiters.size(); w++) {
                int now = gain(w);
                for (int e = 0; e < 4; e++) {
                    if (gain(w, e) > now) {
                        return false;
                    }
                }
            }
            return true;
        }

        boolean allStay() {
            for (int w = 0; w < waiters.size(); w++) {
                if (share(w) < waiters.get(w)[4]) {
                    return false;
                }
            }
            return true;
        }
    }

    /** All rows of n elements from least to most, the least row first. */
    private static List<List<Integer>> rows(int n, int least, int most) {
        List<List<Integer>> rows = new ArrayList<>();
        rows.add(new ArrayList<>());
        for (int i = 0; i < n; i++) {
            List<List<Integer>> longer = new ArrayList<>();
            for (List<Integer> row : rows) {
                for (int v = least; v <= most; v++) {
                    List<Integer> next = new ArrayList<>(row);
                    next.add(v);
                    longer.add(next);
                }
            }
            rows = longer;
        }
        return rows;
    }

    private State now = new State();
    private State kept = null;
    private final long[][] shelves = new long[8][];
    private final int[] holds = {-1, -1, -1, -1, -1, -1, -1, -1};
    private final int[] refused = new int[8];
    private int fault = -1;
    private final List<Integer> trace = new ArrayList<>();

    private int no(int code) {
        refused[-code]++;
        return code;
    }

    private int far(int code) {
        return no(code) - 1000000;
    }

    private static boolean in(int v, int n) {
        return v >= 0 && v < n;
    }

    private static boolean within(int v, int[] bounds) {
        return v >= bounds[0] && v <= bounds[1];
    }

    private boolean isWaiter(int w) {
        return in(w, now.waiters.size());
    }

    private boolean isTable(int t) {
        return in(t, now.tables.size());
    }

    /** 0, or why the SHELF is no ROW. */
    private int rowIn(int s) {
        if (!in(s, 8)) {
            return -1;
        }
        if (holds[s] >= 0 && holds[s] < 100) {
            return -2;
        }
        return holds[s] < 0 ? -3 : 0;
    }

    int row(int s, int sort, int n) {
        if (!in(s, 8)) {
            return no(-1);
        }
        if (n < 0) {
            return no(-4);
        }
        if (!in(sort, 4)) {
            return no(-6);
        }
        if (n > 160) {
            return no(-7);
        }
        shelves[s] = new long[n];
        holds[s] = 100 + sort;
        return 1;
    }

    int set(int s, int i, long v) {
        int bad = rowIn(s);
        if (bad != 0) {
            return no(bad);
        }
        if (!in(i, shelves[s].length)) {
            return no(-5);
        }
        int unused = new int[] {56, 48, 32, 0}[holds[s] - 100];
        shelves[s][i] = v << unused >> unused;
        return 1;
    }

    int copy(int p, int q, int i, int j, int n) {
        int a = rowIn(p);
        int b = rowIn(q);
        if (a == -1 || b == -1) {
            return no(-1);
        }
        if (a == -2 || b == -2 || a == 0 && b == 0 && holds[p] != holds[q]) {
            return no(-2);
        }
        if (a == -3 || b == -3) {
            return no(-3);
        }
        if (n < 0) {
            return no(-4);
        }
        if (i < 0 || j < 0 || (long) i + n > shelves[p].length || (long) j + n > shelves[q].length) {
            return no(-5);
        }
        long[] was = shelves[p].clone();
        for (int k = 0; k < n; k++) {
            shelves[q][j + k] = was[i + k];
        }
        return 1;
    }

    long element(int s, int i) {
        return rowIn(s) == 0 && in(i, shelves[s].length) ? shelves[s][i] : 0;
    }

    int show(int s, int table) {
        if (!in(s, 8) || table != -1 && !isTable(table)) {
            return no(-1);
        }
        holds[s] = table;
        return table == -1 ? 0 : 1;
    }

    int holds(int s) {
        return in(s, 8) ? holds[s] : -1;
    }

    private static boolean under(int kind, int wanted) {
        switch (wanted) {
            case 0:
                return true;
            case 1:
                return kind == 1 || kind == 2 || kind == 3 || kind == 5 || kind == 6;
            case 3:
                return kind == 3 || kind == 6;
            default:
                return kind == wanted;
        }
    }

    int says(int s, int kind) {
        if (!in(s, 8) || !in(kind, 7)) {
            return no(-1);
        }
        if (holds[s] == -1) {
            return no(-3);
        }
        if (holds[s] >= 100 || !under(now.tables.get(holds[s])[0], kind)) {
            return no(-2);
        }
        int t = holds[s];
        int[] g = now.tables.get(t);
        int[] said = {g[3], now.custom(t), g[1] % 10, g[2], now.middle(), t == 0 ? 0 : now.gives(t - 1),
            Math.max(0, 5 - now.service(t))};
        return said[kind];
    }

    private static int newWaiter(State s, int skill, int pains, int want) {
        if (!within(skill, WAITER_BOUNDS[0]) || !within(pains, WAITER_BOUNDS[2]) || !within(want, WAITER_BOUNDS[4])) {
            return -6;
        }
        if (s.waiters.size() == 4) {
            return -7;
        }
        s.waiters.add(new int[] {skill, 0, pains, 1, want, 0});
        return s.waiters.size() - 1;
    }

    private static int newTable(State s, int... parts) {
        if (!within(parts[0], TABLE_BOUNDS[0]) || !in(parts[4], s.waiters.size())) {
            return -1;
        }
        for (int i = 1; i < 4; i++) {
            if (!within(parts[i], TABLE_BOUNDS[i])) {
                return -6;
            }
        }
        if (s.tables.size() == 8) {
            return -7;
        }
        s.tables.add(parts);
        return s.tables.size() - 1;
    }

    int waiter(int skill, int pains, int want) {
        int w = newWaiter(now, skill, pains, want);
        return w < 0 ? no(w) : w;
    }

    int table(int kind, int bill, int party, int a, int w) {
        int t = newTable(now, kind, bill, party, a, w);
        return t < 0 ? no(t) : t;
    }

    int tables(int s, int i, int n) {
        int bad = rowIn(s);
        if (bad != 0) {
            return no(bad);
        }
        if (n < 0) {
            return no(-4);
        }
        if (i < 0 || (long) i + n > shelves[s].length) {
            return no(-5);
        }
        if (n % 5 != 0) {
            return no(-6);
        }
        for (int k = 0; k < n; k += 5) {
            int[] parts = new int[5];
            for (int j = 0; j < 5; j++) {
                parts[j] = (int) shelves[s][i + k + j];
            }
            if (newTable(now, parts) < 0) {
                return k / 5;
            }
        }
        return n / 5;
    }

    int serves(int table, int w) {
        if (!isTable(table) || !isWaiter(w)) {
            return no(-1);
        }
        int was = now.tables.get(table)[4];
        now.tables.get(table)[4] = w;
        return was;
    }

    int becomes(int w, int what, int v) {
        if (!isWaiter(w)) {
            return no(-1);
        }
        if (!in(what, 5)) {
            return no(-5);
        }
        if (!within(v, WAITER_BOUNDS[what])) {
            return no(-6);
        }
        int was = now.waiters.get(w)[what];
        now.waiters.get(w)[what] = v;
        return was;
    }

    int ask(int what, int v) {
        if (!in(what, 5) || !within(v, ASK_BOUNDS[what])) {
            return no(-6);
        }
        int was = now.ask[what];
        now.ask[what] = v;
        return was;
    }

    int tableOf(int table, int what) {
        if (!isTable(table) || !in(what, 6)) {
            return no(-5);
        }
        return what == 5 ? now.service(table) : now.tables.get(table)[what];
    }

    int waiterOf(int w, int what) {
        if (!isWaiter(w) || !in(what, 7)) {
            return no(-5);
        }
        return what == 6 ? now.count(w) : now.waiters.get(w)[what];
    }

    // ---- texts ----

    private static final Pattern WHOLE = Pattern.compile("ITEM(;ITEM)*".replace("ITEM",
        "(waiter N N N|table N N N N N|sharing N|added N|numbers N N N)").replace("N", "[0-9]{1,3}"));
    private static final Pattern NUMBER = Pattern.compile("[0-9]+");

    /** The first place at which an element can't stand, numbers and room aside; NONE if the text may be. */
    private static int placeByLetters(String text) {
        for (int n = 1; n <= text.length(); n++) {
            Matcher m = WHOLE.matcher(text.substring(0, n));
            if (!m.matches() && !m.hitEnd()) {
                return n - 1;
            }
        }
        return WHOLE.matcher(text).matches() ? -1 : text.length();
    }

    private static boolean told(State s, String word, List<Integer> numbers, int j) {
        int v = numbers.get(j);
        switch (word) {
            case "waiter":
                return within(v, WAITER_BOUNDS[j * 2]);
            case "table":
                return j == 4 ? in(v, s.waiters.size()) : within(v, TABLE_BOUNDS[j]);
            case "sharing":
                return within(v, ASK_BOUNDS[0]);
            case "added":
                return within(v, ASK_BOUNDS[1]);
            default:
                return within(v, ASK_BOUNDS[2]);
        }
    }

    private static void tell(State s, String word, List<Integer> n) {
        switch (word) {
            case "waiter":
                newWaiter(s, n.get(0), n.get(1), n.get(2));
                break;
            case "table":
                newTable(s, n.get(0), n.get(1), n.get(2), n.get(3), n.get(4));
                break;
            case "sharing":
                s.ask[0] = n.get(0);
                break;
            case "added":
                s.ask[1] = n.get(0);
                break;
            default:
                s.ask[2] = n.get(0);
                s.ask[3] = n.get(1);
                s.ask[4] = n.get(2);
        }
    }

    /** The FAULT; what is told comes onto the state as long as there is none. */
    private static int faultOf(State s, String text) {
        int letters = placeByLetters(text);
        String may = letters == -1 ? text : text.substring(0, letters);
        int start = 0;
        for (String item : may.split(";", -1)) {
            String word = "";
            for (String known : new String[] {"waiter", "table", "sharing", "added", "numbers"}) {
                if (item.startsWith(known)) {
                    word = known;
                }
            }
            if (word.equals("waiter") && s.waiters.size() == 4 || word.equals("table") && s.tables.size() == 8) {
                return start;
            }
            List<Integer> numbers = new ArrayList<>();
            Matcher m = NUMBER.matcher(item);
            while (m.find()) {
                numbers.add(Integer.parseInt(m.group()));
                if (!told(s, word, numbers, numbers.size() - 1)) {
                    return start + m.start();
                }
            }
            if (WHOLE.matcher(item).matches()) {
                tell(s, word, numbers);
            }
            start += item.length() + 1;
        }
        return letters;
    }

    int house(int s) {
        int bad = rowIn(s);
        if (bad != 0) {
            return no(bad);
        }
        StringBuilder text = new StringBuilder();
        for (long v : shelves[s]) {
            int low = (int) v;
            text.append(in(low, 256) ? (char) low : '\uffff');
        }
        State told = now.copy();
        fault = faultOf(told, text.toString());
        if (fault != -1) {
            return no(-6);
        }
        now = told;
        return text.toString().split(";").length;
    }

    int fault() {
        return fault;
    }

    // ---- what is given, and what comes of it ----

    int would(int table) {
        return isTable(table) ? now.would(table) : no(-1);
    }

    int gives(int table) {
        return isTable(table) ? now.gives(table) : no(-1);
    }

    int all() {
        return now.all();
    }

    int share(int w, int what) {
        if (!isWaiter(w)) {
            return no(-1);
        }
        if (!in(what, 2)) {
            return no(-5);
        }
        return what == 0 ? now.own(w) : now.share(w);
    }

    int gain(int w, int e) {
        if (!isWaiter(w)) {
            return far(-1);
        }
        if (e != -1 && !in(e, 4)) {
            return far(-6);
        }
        return e == -1 ? now.gain(w) : now.gain(w, e);
    }

    int reply(int w) {
        return isWaiter(w) ? now.reply(w) : no(-1);
    }

    int rest(int w) {
        if (w != -1 && !isWaiter(w)) {
            return no(-1) - 10;
        }
        State s = now.copy();
        int changes = 0;
        boolean changed = true;
        while (changed && changes < 30) {
            changed = false;
            for (int v = 0; v < s.waiters.size(); v++) {
                int e = s.reply(v);
                if (e != s.waiters.get(v)[1]) {
                    s.waiters.get(v)[1] = e;
                    changed = true;
                }
            }
            if (changed) {
                changes++;
            }
        }
        if (w != -1) {
            return s.waiters.get(w)[1];
        }
        return changes == 30 ? -1 : changes;
    }

    int rests(int w) {
        if (w != -1 && !isWaiter(w)) {
            return no(-1);
        }
        List<List<Integer>> resting = new ArrayList<>();
        for (List<Integer> row : rows(now.waiters.size(), 0, 3)) {
            if (now.with(1, row).rests()) {
                resting.add(row);
            }
        }
        if (w == -1) {
            return resting.size();
        }
        return resting.isEmpty() ? no(-5) : resting.get(0).get(w);
    }

    int best(int w) {
        if (!isWaiter(w)) {
            return no(-1);
        }
        List<Integer> best = null;
        long most = Long.MIN_VALUE;
        for (List<Integer> row : rows(now.waiters.size(), 0, 3)) {
            State s = now.with(1, row);
            long sum = 0;
            for (int v = 0; v < row.size(); v++) {
                sum += s.gain(v);
            }
            if (sum > most) {
                most = sum;
                best = row;
            }
        }
        return best.get(w);
    }

    int points(int w) {
        if (!isWaiter(w)) {
            return no(-1);
        }
        for (List<Integer> row : rows(now.waiters.size(), 1, 3)) {
            State s = now.with(3, row);
            s.ask[0] = 2;
            if (s.allStay()) {
                return row.get(w);
            }
        }
        return no(-5);
    }

    int leavers() {
        int bits = 0;
        for (int w = 0; w < now.waiters.size(); w++) {
            if (now.share(w) < now.waiters.get(w)[4]) {
                bits += 1 << w;
            }
        }
        return bits;
    }

    /** All ways to give the tables WAITERS, listed; and of each what comes of it. */
    private int placed(int k, int table, boolean even) {
        if (table != -1 && !isTable(table)) {
            return no(-1);
        }
        if (k < 1 || k > 8) {
            return no(-6);
        }
        if (now.tables.isEmpty()) {
            return 0;
        }
        int waiters = now.waiters.size();
        int ways = 1;
        for (int t = 0; t < now.tables.size(); t++) {
            ways *= waiters;
        }
        State s = now.copy();
        int[] best = null;
        int value = 0;
        for (int way = 0; way < ways; way++) {
            int[] by = new int[now.tables.size()];
            int[] tables = new int[waiters];
            int rest = way;
            for (int t = by.length - 1; t >= 0; t--) {
                by[t] = rest % waiters;
                tables[by[t]]++;
                rest /= waiters;
            }
            if (Arrays.stream(tables).max().getAsInt() > k) {
                continue;
            }
            for (int t = 0; t < by.length; t++) {
                s.tables.get(t)[4] = by[t];
            }
            int[] own = new int[waiters];
            for (int t = 0; t < by.length; t++) {
                own[by[t]] += s.gives(t);
            }
            int is = even ? Arrays.stream(own).min().getAsInt() - Arrays.stream(own).max().getAsInt()
                : Arrays.stream(own).sum();
            if (best == null || is > value) {
                best = by;
                value = is;
            }
        }
        if (best == null) {
            return no(-5);
        }
        return table == -1 ? Math.abs(value) : best[table];
    }

    int most(int k, int table) {
        return placed(k, table, false);
    }

    int even(int k, int table) {
        return placed(k, table, true);
    }

    private int turned(int w, int n) {
        int sum = 0;
        for (int e = 0; e < n; e++) {
            State s = now.copy();
            for (int[] t : s.tables) {
                t[4] = (t[4] + e) % s.waiters.size();
            }
            sum += s.own(w);
        }
        return sum;
    }

    int turns(int w, int n) {
        if (!isWaiter(w)) {
            return no(-1);
        }
        return n < 0 || n > 30 ? no(-6) : turned(w, n);
    }

    int luck(int w) {
        int n = now.waiters.size();
        return isWaiter(w) ? n * now.own(w) - turned(w, n) : far(-1);
    }

    int worth(int w) {
        if (!isWaiter(w)) {
            return far(-1);
        }
        State s = now.copy();
        s.waiters.get(w)[0]++;
        return s.all() - now.all();
    }

    int raise() {
        State s = now.copy();
        for (int added = 0; added <= 30; added++) {
            s.ask[1] = added;
            if (s.allStay()) {
                return added;
            }
        }
        return -1;
    }

    private int toldRow(int s) {
        int bad = rowIn(s);
        return bad != 0 ? bad : shelves[s].length < now.waiters.size() ? -5 : 0;
    }

    private int firstWrong(int s) {
        for (int w = 0; w < now.waiters.size(); w++) {
            if (!in((int) shelves[s][w], 4)) {
                return w;
            }
        }
        return -1;
    }

    int judge(int s) {
        int bad = toldRow(s);
        return bad != 0 ? no(bad) : firstWrong(s);
    }

    int told(int s, int w) {
        if (!isWaiter(w)) {
            return far(-1);
        }
        int bad = toldRow(s);
        if (bad != 0) {
            return far(bad);
        }
        if (firstWrong(s) != -1) {
            return far(-6);
        }
        List<Integer> row = new ArrayList<>();
        for (int v = 0; v < now.waiters.size(); v++) {
            row.add((int) shelves[s][v]);
        }
        return now.with(1, row).gain(w);
    }

    int evening() {
        if (now.waiters.isEmpty()) {
            return no(-5);
        }
        now.jar += now.all();
        for (int w = 0; w < now.waiters.size(); w++) {
            now.jar -= now.share(w);
            now.waiters.get(w)[5] += now.share(w);
        }
        now.evenings++;
        return now.jar;
    }

    private int draw(int n) {
        now.seed = (int) (now.seed * 1103515245L + 12345L);
        return (int) ((now.seed & 0xFFFFFFFFL) / 65536 % n);
    }

    int guests() {
        int bills = 0;
        for (int[] t : now.tables) {
            t[0] = draw(7);
            t[1] = draw(99) + 1;
            t[2] = draw(6) + 1;
            t[3] = draw(25);
            bills += t[1];
        }
        return bills;
    }

    int seed(int v) {
        int was = now.seed;
        now.seed = v;
        return was;
    }

    // ---- acts ----

    private static class Gift {
        List<Integer> ran;
        int m;
        int k;

        int serves(int x) {
            ran.add(10);
            return x + m;
        }

        int gives(int x) {
            ran.add(11);
            return serves(x) * 2;
        }

        int stays(int x) {
            ran.add(12);
            return gives(x) ^ serves(x - k);
        }
    }

    private static class Custom extends Gift {
        @Override
        int serves(int x) {
            ran.add(20);
            return super.serves(x) + k;
        }
    }

    private static class Rounded extends Custom {
        @Override
        int gives(int x) {
            ran.add(30);
            return super.gives(x) * 3;
        }
    }

    private static class Served extends Custom {
        @Override
        int gives(int x) {
            ran.add(40);
            return super.gives(x + 1);
        }
    }

    private static class Grudged extends Served {
        @Override
        int stays(int x) {
            ran.add(50);
            return -super.stays(x);
        }

        @Override
        int serves(int x) {
            ran.add(51);
            return super.serves(x) - m;
        }
    }

    private static class Nudged extends Gift {
        @Override
        int stays(int x) {
            ran.add(60);
            return super.stays(x) ^ 5;
        }
    }

    private static class Shown extends Custom {
        @Override
        int serves(int x) {
            ran.add(70);
            return super.serves(x) * 2;
        }

        @Override
        int gives(int x) {
            ran.add(71);
            return super.gives(x - k);
        }
    }

    int act(int table, int act, int x) {
        trace.clear();
        if (!isTable(table) || !in(act, 3)) {
            return 0;
        }
        Gift[] kinds = {new Gift(), new Custom(), new Rounded(), new Served(), new Nudged(), new Shown(),
            new Grudged()};
        Gift guests = kinds[now.tables.get(table)[0]];
        guests.ran = trace;
        guests.m = table;
        guests.k = now.tables.get(table)[3];
        return act == 0 ? guests.serves(x) : act == 1 ? guests.gives(x) : guests.stays(x);
    }

    int trace(int i) {
        return in(i, Math.min(20, trace.size())) ? trace.get(i) : -1;
    }

    int image() {
        kept = now.copy();
        return now.tables.size();
    }

    int restore() {
        if (kept == null) {
            return no(-6);
        }
        now = kept.copy();
        for (int s = 0; s < 8; s++) {
            if (holds[s] < 100 && holds[s] >= now.tables.size()) {
                holds[s] = -1;
            }
        }
        return now.tables.size();
    }

    int status(int what) {
        switch (what) {
            case 0:
                return now.tables.size();
            case 1:
                return now.waiters.size();
            case 2:
                return now.tables.stream().mapToInt(t -> t[1]).sum();
            case 3:
                return now.ask[0];
            case 4:
                return now.ask[1];
            case 5:
                return now.evenings;
            case 6:
                return now.jar;
            case 7:
                return now.seed;
            case 8:
                return trace.size();
            default:
                return what >= 11 && what <= 17 ? refused[what - 10] : -1;
        }
    }
}
