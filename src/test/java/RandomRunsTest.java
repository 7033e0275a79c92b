import java.lang.reflect.InvocationTargetException;
import java.lang.reflect.Method;
import java.lang.reflect.Modifier;
import java.util.ArrayList;
import java.util.Arrays;
import java.util.HashMap;
import java.util.List;
import java.util.Map;
import java.util.Random;

/** Long runs of calls drawn at random (by a fixed seed), each answer compared with that of the Model. */
public final class RandomRunsTest {
    private static final int RUNS = 6000;
    private static final int CALLS = 512;
    private static final String[] CALL_NAMES = {"row", "set", "copy", "element", "show", "holds", "says", "waiter",
        "table", "tables", "serves", "becomes", "ask", "tableOf", "waiterOf", "house", "fault", "would", "gives",
        "all", "share", "gain", "reply", "rest", "rests", "best", "points", "leavers", "most", "even", "turns",
        "luck", "worth", "raise", "judge", "told", "evening", "guests", "seed", "act", "trace", "image", "restore",
        "status"};
    private static final int[] EDGES = {Integer.MIN_VALUE, Integer.MAX_VALUE, Integer.MIN_VALUE + 1, -2, -1, 0, 1,
        160, 161, 1000, 65536, 256};

    private static final Map<String, Method> ON_PROGRAM = calls(TablesAndTips.class);
    private static final Map<String, Method> ON_MODEL = calls(Model.class);

    private final Random random;
    private final TablesAndTips program = new TablesAndTips();
    private final Model model = new Model();
    private final List<String> calls = new ArrayList<>();
    private final int dearest;
    private final int waitersAtMost;
    private final int tablesAtMost;
    private int made = 0;
    private boolean same = true;

    private RandomRunsTest(long seed) {
        random = new Random(seed);
        // Few runs fill the house, as the Model lists all ways.
        dearest = random.nextInt(10) == 0 ? 65536 : 300;
        waitersAtMost = random.nextInt(5);
        tablesAtMost = random.nextInt(9);
    }

    public static void main(String[] args) {
        int[] answered = new int[CALL_NAMES.length];
        for (int run = 0; run < RUNS && !Checks.anyWrong(); run++) {
            RandomRunsTest test = new RandomRunsTest(run * 7919L + 11);
            test.play(answered);
            Checks.holds("run " + run + " is as the Model's", test.same);
            if (!test.same) {
                test.calls.forEach(System.out::println);
            }
        }
        for (int c = 0; c < CALL_NAMES.length; c++) {
            Checks.holds(CALL_NAMES[c] + " answered often, not " + answered[c] + " times", answered[c] > RUNS / 3);
        }
        Checks.end("RandomRunsTest");
    }

    private void play(int[] answered) {
        while (made < CALLS && same) {
            int what = random.nextInt(100);
            if (what < 2) {
                layText();
            } else if (what < 4) {
                layNumbers();
            } else {
                int c = random.nextInt(CALL_NAMES.length);
                if (isEnough(CALL_NAMES[c]) && random.nextInt(20) > 0) {
                    continue;
                }
                long answer = call(c, arguments(c));
                answered[c] += answer < 0 ? 0 : 1;
            }
        }
    }

    /** So that there are small houses too, which stay small for a while. */
    private boolean isEnough(String name) {
        if (name.equals("waiter")) {
            return program.status(1) >= waitersAtMost;
        }
        return (name.equals("table") || name.equals("tables")) && program.status(0) >= tablesAtMost;
    }

    /** Mostly from just below the least to just above the most that may be, and now and then far out. */
    private int near(int least, int most) {
        int chance = random.nextInt(40);
        if (chance == 0) {
            return EDGES[random.nextInt(EDGES.length)];
        }
        if (chance < 3) {
            return random.nextBoolean() ? least - 1 : most + 1;
        }
        return least + random.nextInt(most - least + 1);
    }

    private int shelf() {
        return near(0, 7);
    }

    /** A SHELF that holds GUESTS, or a ROW, if one is found soon. */
    private int shelfOf(boolean guests) {
        int s = shelf();
        for (int i = 0; i < 12; i++) {
            int held = program.holds(s);
            if (guests ? held >= 0 && held < 8 : held >= 100) {
                return s;
            }
            s = shelf();
        }
        return s;
    }

    private int someTable() {
        return near(0, Math.max(0, program.status(0) - 1));
    }

    private int someWaiter() {
        return near(0, Math.max(0, program.status(1) - 1));
    }

    private int noneOr(int v) {
        return random.nextInt(3) == 0 ? -1 : v;
    }

    private int ofWaiter(int what) {
        int[][] bounds = {{0, 6}, {0, 3}, {0, random.nextBoolean() ? 9 : 99}, {1, 9},
            {0, random.nextBoolean() ? 40 : 999}};
        return what < 0 || what > 4 ? near(0, 5) : near(bounds[what][0], bounds[what][1]);
    }

    private int ofAsk(int what) {
        int[] most = {3, 30, 99, 99, 99};
        return what < 0 || what > 4 ? near(0, 5) : near(0, most[what]);
    }

    private long anyLong() {
        long v = random.nextLong();
        return random.nextInt(3) == 0 ? v : random.nextInt(3) == 0 ? v >> 30 : near(0, 200);
    }

    private long[] arguments(int c) {
        int what = near(0, 4);
        switch (CALL_NAMES[c]) {
            case "row":
                return new long[] {shelf(), near(0, 3), near(0, random.nextBoolean() ? 20 : 160)};
            case "set":
                return new long[] {shelf(), near(0, 20), anyLong()};
            case "copy":
                return new long[] {shelfOf(false), shelfOf(false), near(0, 4), near(0, 4), near(0, 5)};
            case "element":
                return new long[] {shelf(), near(0, 25)};
            case "show":
                return new long[] {shelf(), random.nextInt(6) == 0 ? -1 : someTable()};
            case "says":
                return new long[] {shelfOf(true), near(0, random.nextInt(7))};
            case "waiter":
                return new long[] {ofWaiter(0), ofWaiter(2), ofWaiter(4)};
            case "table":
                return new long[] {near(0, 6), near(1, random.nextBoolean() ? 99 : 999), near(1, 9), near(0, 99),
                    someWaiter()};
            case "tables":
                return new long[] {shelfOf(false), near(0, 3), random.nextInt(4) == 0 ? near(0, 30) : 5 * near(0, 3)};
            case "serves":
                return new long[] {someTable(), someWaiter()};
            case "becomes":
                return new long[] {someWaiter(), what, ofWaiter(what)};
            case "ask":
                return new long[] {what, ofAsk(what)};
            case "tableOf":
                return new long[] {someTable(), near(0, 5)};
            case "waiterOf":
                return new long[] {someWaiter(), near(0, 6)};
            case "share":
                return new long[] {someWaiter(), near(0, 1)};
            case "gain":
                return new long[] {someWaiter(), near(-1, 3)};
            case "rest":
            case "rests":
                return new long[] {noneOr(someWaiter())};
            case "most":
            case "even":
                return new long[] {near(1, 8), noneOr(someTable())};
            case "turns":
                return new long[] {someWaiter(), near(0, 30)};
            case "told":
                return new long[] {shelfOf(false), someWaiter()};
            case "seed":
                return new long[] {random.nextInt()};
            case "act":
                return new long[] {someTable(), near(0, 2), random.nextInt(3) == 0 ? random.nextInt() : near(-9, 99)};
            case "trace":
                return new long[] {near(0, 12)};
            case "status":
                return new long[] {near(0, 18)};
            case "would":
            case "gives":
                return new long[] {someTable()};
            case "holds":
            case "house":
            case "judge":
                return new long[] {random.nextBoolean() ? shelf() : shelfOf(false)};
            case "reply":
            case "best":
            case "points":
            case "luck":
            case "worth":
                return new long[] {someWaiter()};
            default:
                return new long[0];
        }
    }

    private int ways() {
        int ways = 1;
        for (int t = 0; t < program.status(0); t++) {
            ways *= program.status(1);
        }
        return ways;
    }

    private long call(int c, long... v) {
        String name = CALL_NAMES[c];
        boolean listed = name.equals("most") || name.equals("even");
        // A full house is listed only once in a while.
        if (listed && (ways() > dearest || ways() > 5000 && random.nextInt(8) > 0)) {
            return 0;
        }
        made++;
        long due = answer(ON_MODEL.get(name), model, v);
        long got;
        try {
            got = answer(ON_PROGRAM.get(name), program, v);
        } catch (IllegalStateException thrown) {
            calls.add(name + Arrays.toString(v) + " threw " + thrown.getCause().getCause());
            same = false;
            return 0;
        }
        calls.add(name + Arrays.toString(v) + " answered " + got + ", due is " + due);
        same &= got == due;
        return got;
    }

    private long call(String name, long... v) {
        for (int c = 0; c < CALL_NAMES.length; c++) {
            if (CALL_NAMES[c].equals(name)) {
                return call(c, v);
            }
        }
        throw new IllegalStateException(name);
    }

    /** A text that may be, or one with something amiss, laid into a SHELF and read. */
    private void layText() {
        StringBuilder text = new StringBuilder();
        int items = 1 + random.nextInt(4);
        for (int i = 0; i < items; i++) {
            text.append(i == 0 ? "" : ";").append(item());
        }
        int amiss = random.nextInt(4);
        for (int i = 0; i < (amiss < 2 ? 0 : amiss - 1); i++) {
            spoil(text);
        }
        int n = Math.min(text.length(), 160);
        int s = random.nextInt(8);
        call("row", s, random.nextInt(4), n);
        for (int i = 0; i < n && made < CALLS && same; i++) {
            long above = random.nextInt(4) == 0 ? (long) random.nextInt() << 32 : 0;
            call("set", s, i, text.charAt(i) + above);
        }
        if (made + 2 <= CALLS && same) {
            call("house", s);
            call("fault");
        }
    }

    private String item() {
        int kind = random.nextInt(7);
        boolean enough = random.nextInt(10) > 0;
        if (kind < 2 && enough && program.status(1) >= waitersAtMost || kind < 4 && enough
            && program.status(0) >= tablesAtMost) {
            kind = 4 + random.nextInt(3);
        }
        if (kind < 2) {
            return "waiter" + told(0, 6) + told(0, 99) + told(0, 99);
        }
        if (kind < 4) {
            return "table" + told(0, 6) + told(1, 999) + told(1, 9) + told(0, 99)
                + told(0, Math.max(0, program.status(1) - 1));
        }
        return kind == 4 ? "sharing" + told(0, 3) : kind == 5 ? "added" + told(0, 30)
            : "numbers" + told(0, 99) + told(0, 99) + told(0, 99);
    }

    private String told(int least, int most) {
        int v = least + random.nextInt(most - least + 1);
        if (random.nextInt(30) == 0) {
            v = random.nextBoolean() ? Math.max(0, least - 1) : most + 1;
        }
        String zeros = random.nextInt(10) == 0 ? "0" : "";
        return " " + (v < 100 ? zeros : "") + v;
    }

    private void spoil(StringBuilder text) {
        int at = random.nextInt(text.length());
        String letters = "watersnumb 0123456789;; \u0000z";
        char letter = letters.charAt(random.nextInt(letters.length()));
        int how = random.nextInt(4);
        if (how == 0) {
            text.setCharAt(at, letter);
        } else if (how == 1) {
            text.insert(at, letter);
        } else if (how == 2 && text.length() > 1) {
            text.deleteCharAt(at);
        } else {
            text.setLength(at + 1);
        }
    }

    /** A ROW of tables or of EFFORTS, and what may be done with it. */
    private void layNumbers() {
        int s = random.nextInt(8);
        boolean efforts = random.nextBoolean();
        int n = efforts ? near(0, 5) : 5 * (1 + random.nextInt(3)) + random.nextInt(2);
        call("row", s, random.nextInt(4), n);
        int[][] bounds = {{0, 6}, {1, 120}, {1, 9}, {0, 99}, {0, Math.max(0, program.status(1) - 1)}};
        for (int i = 0; i < n && i < 160 && made < CALLS && same; i++) {
            call("set", s, i, efforts ? near(0, 3) : near(bounds[i % 5][0], bounds[i % 5][1]));
        }
        if (made + 2 <= CALLS && same && efforts) {
            call("judge", s);
            call("told", s, someWaiter());
        } else if (made + 2 <= CALLS && same) {
            call("tables", s, 0, n / 5 * 5);
        }
    }

    private static Map<String, Method> calls(Class<?> type) {
        Map<String, Method> calls = new HashMap<>();
        for (Method method : type.getDeclaredMethods()) {
            if (!Modifier.isPrivate(method.getModifiers())) {
                calls.put(method.getName(), method);
            }
        }
        return calls;
    }

    private static long answer(Method method, Object of, long... v) {
        Class<?>[] types = method.getParameterTypes();
        Object[] arguments = new Object[types.length];
        for (int i = 0; i < types.length; i++) {
            if (types[i] == int.class) {
                arguments[i] = (int) v[i];
            } else {
                arguments[i] = v[i];
            }
        }
        try {
            return ((Number) method.invoke(of, arguments)).longValue();
        } catch (IllegalAccessException | InvocationTargetException thrown) {
            throw new IllegalStateException(method.getName() + " threw", thrown);
        }
    }
}
