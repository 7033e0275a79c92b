import java.io.IOException;
import java.lang.reflect.Array;
import java.lang.reflect.Constructor;
import java.lang.reflect.Field;
import java.lang.reflect.Method;
import java.lang.reflect.Modifier;
import java.nio.file.Files;
import java.nio.file.Path;
import java.util.ArrayList;
import java.util.Collections;
import java.util.HashMap;
import java.util.HashSet;
import java.util.IdentityHashMap;
import java.util.List;
import java.util.Map;
import java.util.Set;
import java.util.TreeSet;
import java.util.regex.Matcher;
import java.util.regex.Pattern;

/** What of ../shared/LANGUAGE.md can be seen from the compiled class, its source and a new object. */
public final class LanguageTest {
    private static final Set<String> LIBRARY = Set.of("java/lang/Object.<init>", "java/lang/Math.min",
        "java/lang/Math.max", "java/lang/String.length", "java/lang/String.charAt");
    private static final Set<String> RECURSIVE = Set.of("TablesAndTips$Outcomes.placeFrom");
    private static final int DEEPEST = 8;

    private final Map<String, ClassFile.Method> methods = new HashMap<>();

    private LanguageTest() {
    }

    public static void main(String[] args) throws Exception {
        LanguageTest test = new LanguageTest();
        test.face();
        test.members();
        test.source();
        test.code();
        test.depth();
        test.room();
        Checks.end("LanguageTest");
    }

    private static List<Class<?>> classes() {
        List<Class<?>> classes = new ArrayList<>();
        classes.add(TablesAndTips.class);
        for (int i = 0; i < classes.size(); i++) {
            Collections.addAll(classes, classes.get(i).getDeclaredClasses());
        }
        return classes;
    }

    private static String signature(Class<?> answer, String name, Class<?>[] arguments) {
        List<String> types = new ArrayList<>();
        for (Class<?> type : arguments) {
            types.add(type.getName());
        }
        return answer.getName() + " " + name + types;
    }

    /** Rule 1: the face is that of the document, and nothing else is to be seen. */
    private void face() throws IOException {
        String doc = Files.readString(Path.of("../shared/DOC.md"));
        String block = doc.substring(doc.indexOf("public final class TablesAndTips"), doc.indexOf("## Terms"));
        Set<String> due = new TreeSet<>();
        Matcher m = Pattern.compile("public (\\w+) (\\w+)\\(([^)]*)\\);").matcher(block);
        while (m.find()) {
            List<String> types = new ArrayList<>();
            for (String argument : m.group(3).split(", ")) {
                if (!argument.isEmpty()) {
                    types.add(argument.split(" ")[0]);
                }
            }
            due.add(m.group(1) + " " + m.group(2) + types);
        }
        Checks.same("promises of the face", due.size(), 44);
        Set<String> seen = new TreeSet<>();
        for (Method method : TablesAndTips.class.getDeclaredMethods()) {
            if (!Modifier.isPrivate(method.getModifiers())) {
                seen.add(signature(method.getReturnType(), method.getName(), method.getParameterTypes()));
                Checks.holds(method + " throws nothing", method.getExceptionTypes().length == 0);
                Checks.holds(method + " is public", Modifier.isPublic(method.getModifiers()));
            }
        }
        Checks.holds("the face is " + due + ", not " + seen, due.equals(seen));
        Constructor<?>[] constructors = TablesAndTips.class.getDeclaredConstructors();
        Checks.holds("one public constructor", constructors.length == 1
            && constructors[0].getParameterCount() == 0 && Modifier.isPublic(constructors[0].getModifiers()));
        Checks.holds("public and final", Modifier.isPublic(TablesAndTips.class.getModifiers())
            && Modifier.isFinal(TablesAndTips.class.getModifiers()));
        for (Field field : TablesAndTips.class.getDeclaredFields()) {
            Checks.holds(field + " is private, but for NONE",
                Modifier.isPrivate(field.getModifiers()) || field.getName().equals("NONE"));
        }
    }

    /** Rules 1, 2, 5 and 11, as far as members tell. */
    private void members() {
        Set<String> open = new HashSet<>();
        for (Method method : TablesAndTips.class.getDeclaredMethods()) {
            if (Modifier.isPublic(method.getModifiers())) {
                open.add(method.getName());
            }
        }
        Checks.holds("some twelve classes", classes().size() <= 12);
        for (Class<?> type : classes()) {
            Checks.holds(type + " is static", type == TablesAndTips.class || Modifier.isStatic(type.getModifiers()));
            int fields = 0;
            for (Field field : type.getDeclaredFields()) {
                boolean isStatic = Modifier.isStatic(field.getModifiers());
                fields += isStatic ? 0 : 1;
                Checks.holds(field + " is final", !isStatic || Modifier.isFinal(field.getModifiers()));
            }
            Checks.holds(type + " has some twenty fields", fields <= 20);
            for (Method method : type.getDeclaredMethods()) {
                Checks.holds(method + " takes seven at most", method.getParameterCount() <= 7);
                Checks.holds(method + " bears no name of the face",
                    Modifier.isPublic(method.getModifiers()) || !open.contains(method.getName()));
            }
        }
    }

    private void source() throws IOException {
        String source = Files.readString(Path.of("src/main/java/TablesAndTips.java"));
        Checks.holds("signs 1 to 127", source.chars().allMatch(c -> c > 0 && c < 128));
        String bare = source.replaceAll("(?s)/\\*.*?\\*/", "").replaceAll("//.*", "").replaceAll("\"[^\"]*\"", "\"\"");
        for (String no : new String[] {"import ", "package ", "throw", "try ", "catch", "finally", "synchronized",
            "assert", "->", "::", "System.", "native", "volatile", "transient", "strictfp", "goto", "double", "float"}) {
            Checks.holds("no '" + no + "' in the source", !bare.contains(no));
        }
    }

    /** Rules 3, 4, 6, 11 and 12: no throw, no catch, no cast, short methods, nothing made but in constructors. */
    private void code() throws IOException {
        for (Class<?> type : classes()) {
            ClassFile file = new ClassFile(type.getName());
            for (ClassFile.Method m : file.methods) {
                methods.put(m.name, m);
                boolean makes = m.name.endsWith("<init>") || m.name.endsWith("<clinit>");
                Checks.holds(m.name + " catches nothing", m.catches == 0);
                Checks.holds(m.name + " is short", makes || m.lines() <= 60);
                for (int op : m.operations) {
                    Checks.holds(m.name + " throws nothing", op != 191);
                    Checks.holds(m.name + " casts no reference", op != 192);
                    Checks.holds(m.name + " makes nothing", makes || op < 187 || op > 189 && op != 197);
                }
                for (String call : m.calls) {
                    Checks.holds(m.name + " calls " + call, call.startsWith("TablesAndTips") || LIBRARY.contains(call));
                }
            }
        }
        Checks.holds("code was looked at", methods.size() > 100);
    }

    /** Rules 8 and 11: who calls themselves is known, and other calls go eight deep at most. */
    private void depth() {
        for (String name : methods.keySet()) {
            int deep = depth(name, new ArrayList<>());
            Checks.holds(name + " goes no deeper than 8, not " + deep, deep <= DEEPEST);
        }
    }

    private int depth(String name, List<String> open) {
        int deepest = 0;
        open.add(name);
        for (String call : methods.get(name).calls) {
            if (open.contains(call)) {
                Checks.holds(call + " may call itself", RECURSIVE.contains(call) && call.equals(name));
            } else if (methods.containsKey(call)) {
                deepest = Math.max(deepest, depth(call, open));
            }
        }
        open.remove(open.size() - 1);
        return deepest + 1;
    }

    /** What a new object has in all, as nothing more is made by its calls. */
    private void room() throws IllegalAccessException {
        Map<Object, Boolean> met = new IdentityHashMap<>();
        List<Object> found = new ArrayList<>();
        found.add(new TablesAndTips());
        long elements = 0;
        for (int i = 0; i < found.size(); i++) {
            Object o = found.get(i);
            Class<?> type = o.getClass();
            if (type.isArray()) {
                elements += Array.getLength(o);
                for (int k = 0; k < Array.getLength(o) && !type.getComponentType().isPrimitive(); k++) {
                    meet(Array.get(o, k), met, found);
                }
            } else {
                for (Field field : type.getDeclaredFields()) {
                    if (!Modifier.isStatic(field.getModifiers())) {
                        elements++;
                        field.setAccessible(true);
                        if (!field.getType().isPrimitive()) {
                            meet(field.get(o), met, found);
                        }
                    }
                }
            }
        }
        System.out.println("a new object has " + found.size() + " objects, " + elements + " fields and elements");
        Checks.holds("few objects", found.size() > 20 && found.size() < 100);
        Checks.holds("few elements", elements < 5000);
    }

    private static void meet(Object o, Map<Object, Boolean> met, List<Object> found) {
        Checks.holds("no reference is null at first", o != null);
        if (o != null && met.put(o, true) == null) {
            found.add(o);
        }
    }
}
