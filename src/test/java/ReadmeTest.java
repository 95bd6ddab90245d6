import java.io.ByteArrayOutputStream;
import java.io.IOException;
import java.io.PrintStream;
import java.lang.reflect.InvocationTargetException;
import java.net.URL;
import java.net.URLClassLoader;
import java.nio.file.DirectoryStream;
import java.nio.file.Files;
import java.nio.file.Path;
import java.util.ArrayList;
import java.util.List;
import java.util.Set;
import java.util.TreeSet;
import java.util.regex.Matcher;
import java.util.regex.Pattern;
import javax.tools.JavaCompiler;
import javax.tools.ToolProvider;

/** What README.md shows: its examples compile with the class and print what stands behind each line. */
public final class ReadmeTest {
    private static final Path PAGE = Path.of("README.md"), TESTS = Path.of("src/test/java"), OUT = Path.of("build/readme");
    private static final Pattern EXAMPLE = Pattern.compile("(?s)```java\n(.*?)```");
    private static final Pattern NAME = Pattern.compile("public class (\\w+)");
    private static final Pattern PRINTS = Pattern.compile("System\\.out\\.println\\((.*)\\); *// (-?\\d+)\\b");
    private static final Pattern REFUSAL = Pattern.compile("(?m)^\\| (?:`\\w+`, )?(-\\d+)(?: and below)? \\|");
    private static final int FAULTY = -100;

    public static void main(String[] args) throws Exception {
        String page = Files.readString(PAGE);
        Set<Long> shown = new TreeSet<>();
        int examples = 0;
        for (Matcher m = EXAMPLE.matcher(page); m.find(); examples++) shown.addAll(lookAt(m.group(1)));
        Testing.by("README.md");
        Testing.due("examples", examples, 2);
        refusalsAreShown(page, shown);
        testsAreNamed(page);
        Testing.end();
    }

    /** Runs an example, compares what it prints with what stands behind its lines, and answers that. */
    private static List<Long> lookAt(String code) throws Exception {
        Matcher head = NAME.matcher(code);
        Testing.by("README.md");
        boolean isClass = head.find();
        Testing.due("an example is a class", isClass ? 1 : 0, 1);
        if (!isClass) return List.of();
        String name = head.group(1);
        Testing.by(name + " of README.md");
        List<String> calls = new ArrayList<>();
        List<Long> told = new ArrayList<>();
        for (String line : code.split("\n")) {
            Matcher prints = PRINTS.matcher(line);
            boolean tells = prints.find();
            Testing.due("an answer behind" + line, tells ? 1 : 0, line.contains("println") ? 1 : 0);
            if (!tells) continue;
            calls.add(prints.group(1));
            told.add(Long.parseLong(prints.group(2)));
        }
        List<String> printed = run(name, code).lines().toList();
        Testing.due("lines printed", printed.size(), told.size());
        for (int i = 0; i < printed.size() && i < told.size(); i++) {
            Testing.due(calls.get(i), Long.parseLong(printed.get(i)), told.get(i));
        }
        return told;
    }

    private static String run(String name, String code) throws Exception {
        Path source = OUT.resolve(name + ".java");
        Files.createDirectories(OUT);
        Files.writeString(source, code);
        JavaCompiler javac = ToolProvider.getSystemJavaCompiler();
        int failed = javac.run(null, null, null, "-cp", System.getProperty("java.class.path"), "-d", OUT.toString(),
            source.toString());
        Testing.due("compiled", failed, 0);
        return failed == 0 ? printedBy(name) : "";
    }

    private static String printedBy(String name) throws Exception {
        PrintStream screen = System.out;
        ByteArrayOutputStream printed = new ByteArrayOutputStream();
        URL[] where = {OUT.toUri().toURL()};
        try (URLClassLoader loader = new URLClassLoader(where, ReadmeTest.class.getClassLoader())) {
            System.setOut(new PrintStream(printed, true));
            loader.loadClass(name).getMethod("main", String[].class).invoke(null, (Object) new String[0]);
        } catch (InvocationTargetException thrown) {
            screen.println(name + " threw " + thrown.getCause());
        } finally {
            System.setOut(screen);
        }
        return printed.toString();
    }

    /** Of -100 any number down from it will do. */
    private static void refusalsAreShown(String page, Set<Long> shown) {
        int rows = 0;
        for (Matcher m = REFUSAL.matcher(page); m.find(); rows++) {
            long answer = Long.parseLong(m.group(1));
            boolean is = false;
            for (long one : shown) is |= one == answer || answer == FAULTY && one <= FAULTY && one > 2 * FAULTY;
            Testing.due("an example of " + answer, is ? 1 : 0, 1);
        }
        Testing.due("refusals in the table", rows, 13);
    }

    private static void testsAreNamed(String page) throws IOException {
        try (DirectoryStream<Path> files = Files.newDirectoryStream(TESTS, "*.java")) {
            for (Path file : files) {
                String name = file.getFileName().toString().replace(".java", "");
                Testing.due(name + " is named", page.contains("`" + name + "`") ? 1 : 0, 1);
            }
        }
    }
}
