import java.io.ByteArrayOutputStream;
import java.io.IOException;
import java.io.PrintStream;
import java.lang.reflect.Method;
import java.lang.reflect.Modifier;
import java.net.URL;
import java.net.URLClassLoader;
import java.nio.file.DirectoryStream;
import java.nio.file.Files;
import java.nio.file.Path;
import java.util.ArrayList;
import java.util.List;
import java.util.regex.Matcher;
import java.util.regex.Pattern;
import javax.tools.JavaCompiler;
import javax.tools.ToolProvider;

/** README.md: its program prints what its comments say, and it names every call and every test. */
public final class ReadmeTest {
    private static final Path BUILD = Path.of("build", "readme");
    private static final Pattern PRINTED = Pattern.compile("System\\.out\\.println\\((.*)\\);\\s*// (-?\\d+)");

    private ReadmeTest() {
    }

    public static void main(String[] args) throws Exception {
        String readme = Files.readString(Path.of("README.md"));
        List<String> programs = blocks(readme, "java");
        Checks.same("programs in README.md", programs.size(), 1);
        for (String program : programs) {
            printsAsItSays(program);
        }
        namesAllCalls(readme);
        namesAllTests(readme);
        findsFilesOfCommands(readme);
        Checks.end("ReadmeTest");
    }

    private static List<String> blocks(String readme, String language) {
        List<String> found = new ArrayList<>();
        Matcher m = Pattern.compile("(?s)```" + language + "\n(.*?)```").matcher(readme);
        while (m.find()) {
            found.add(m.group(1));
        }
        return found;
    }

    private static void printsAsItSays(String program) throws Exception {
        List<String> calls = new ArrayList<>();
        List<String> due = new ArrayList<>();
        for (String line : program.split("\n")) {
            if (line.contains("println")) {
                Matcher m = PRINTED.matcher(line);
                boolean isTold = m.find();
                Checks.holds("an answer is told of: " + line.trim(), isTold);
                calls.add(isTold ? m.group(1) : line);
                due.add(isTold ? m.group(2) : "");
            }
        }
        Checks.holds("README.md tells answers", due.size() > 20);
        String[] printed = output(program).split("\n");
        Checks.same("lines printed by README.md's program", printed.length, due.size());
        for (int i = 0; i < printed.length && i < due.size(); i++) {
            Checks.holds(calls.get(i) + " of README.md prints " + due.get(i) + ", not " + printed[i],
                printed[i].equals(due.get(i)));
        }
    }

    private static String output(String program) throws Exception {
        Matcher m = Pattern.compile("public final class (\\w+)").matcher(program);
        String name = m.find() ? m.group(1) : "None";
        Files.createDirectories(BUILD);
        Path file = BUILD.resolve(name + ".java");
        Files.writeString(file, program);
        JavaCompiler javac = ToolProvider.getSystemJavaCompiler();
        int code = javac.run(null, null, null, "-classpath", System.getProperty("java.class.path"), "-d",
            BUILD.toString(), file.toString());
        Checks.same("javac of README.md's program", code, 0);
        if (code != 0) {
            return "";
        }
        PrintStream out = System.out;
        ByteArrayOutputStream caught = new ByteArrayOutputStream();
        try (URLClassLoader loader = new URLClassLoader(new URL[] {BUILD.toUri().toURL()})) {
            System.setOut(new PrintStream(caught, true));
            Method main = loader.loadClass(name).getMethod("main", String[].class);
            main.invoke(null, (Object) new String[0]);
        } finally {
            System.setOut(out);
        }
        return caught.toString().replace("\r", "");
    }

    private static void namesAllCalls(String readme) {
        for (Method method : TablesAndTips.class.getDeclaredMethods()) {
            if (Modifier.isPublic(method.getModifiers())) {
                Checks.holds("README.md names " + method.getName(), readme.contains("`" + method.getName() + "`"));
            }
        }
    }

    private static void namesAllTests(String readme) throws IOException {
        try (DirectoryStream<Path> files = Files.newDirectoryStream(Path.of("src/test/java"), "*Test.java")) {
            for (Path file : files) {
                String name = file.getFileName().toString().replace(".java", "");
                Checks.holds("README.md names " + name, readme.contains("`" + name + "`"));
            }
        }
    }

    /** The program of README.md is the one file that its commands name and that is not there. */
    private static void findsFilesOfCommands(String readme) {
        List<String> commands = blocks(readme, "sh");
        Checks.holds("README.md tells commands", commands.size() >= 4);
        for (String command : commands) {
            for (String word : command.split("\\s+")) {
                boolean isFile = word.endsWith(".java") && !word.contains("*") || word.endsWith("/run");
                if (isFile && !word.equals("Evening.java")) {
                    Checks.holds(word + " of README.md is there", Files.isRegularFile(Path.of(word)));
                }
            }
        }
    }
}
