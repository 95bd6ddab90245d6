import java.io.IOException;
import java.lang.reflect.Constructor;
import java.lang.reflect.Field;
import java.lang.reflect.Method;
import java.lang.reflect.Modifier;
import java.nio.file.Files;
import java.nio.file.Path;
import java.util.ArrayList;
import java.util.List;
import java.util.Set;
import java.util.TreeSet;
import java.util.regex.Matcher;
import java.util.regex.Pattern;

/** What of the rules of LANGUAGE.md can be seen in the text of the class and in its face. */
public final class LanguageTest {
    private static final String FACE = "int road(int,int,int) int jam(int,int) int people(int,int,int) int rain(int) "
        + "int bus(int,int,int,int) int queue(int,int) int rest(int) int jump(int,int) int hold(int,int) "
        + "int wants(int,int) int feed(long,int) int custom() int force(int,int) int law(int,int) int why(int,int) "
        + "int minutes(int) int busTold(int,int) int waiting(int,int) int stageTold(int,int) "
        + "int kindTold(int,int,int) int count(int) int trip(int,int) int foretell(int,int) long beside(int,int,int) "
        + "long plan(int,int,int) int planned() int gain(int,int,int) int fights(int) int part(int,int,int,int) "
        + "int round(int,int) int stops(int) int turns() int saved(int,int) int book(int,int,int) int mend(int,int) "
        + "long told(int,int,int) int image() int back() int sheet(int,int,int) int cell(int,int,int) "
        + "int copy(int,int,int,int,int) int buses(int,int,int,int) int taken(int,int)";
    private static int wrong = 0;

    private static void rule(int number, boolean kept, String what) {
        if (kept) return;
        wrong++;
        System.out.println("rule " + number + ": " + what);
    }

    public static void main(String[] args) throws IOException {
        String code = withoutComments(Files.readString(Path.of("src/main/java/FillAndGo.java")));
        face();
        members();
        words(code);
        lengths(code);
        System.out.println(wrong == 0 ? "the rules that can be seen are kept" : wrong + " rules are not kept");
        if (wrong != 0) System.exit(1);
    }

    private static String withoutComments(String text) {
        return text.replaceAll("(?s)/\\*.*?\\*/", "").replaceAll("//[^\n]*", "");
    }

    private static void face() {
        Set<String> want = new TreeSet<>(List.of(FACE.split(" (?=int |long )")));
        Set<String> have = new TreeSet<>();
        Set<String> names = new TreeSet<>();
        for (Method m : FillAndGo.class.getDeclaredMethods()) {
            if (!Modifier.isPublic(m.getModifiers())) continue;
            names.add(m.getName());
            List<String> types = new ArrayList<>();
            for (Class<?> type : m.getParameterTypes()) types.add(type.getName());
            have.add(m.getReturnType().getName() + " " + m.getName() + "(" + String.join(",", types) + ")");
        }
        rule(1, have.equals(want), "the face is " + have);
        for (Class<?> c : all()) {
            for (Method m : c.getDeclaredMethods()) {
                boolean own = c == FillAndGo.class && Modifier.isPublic(m.getModifiers());
                rule(1, own || !names.contains(m.getName()), m + " bears the name of a public one");
                rule(11, m.getParameterCount() <= 7, m + " takes too many");
            }
        }
    }

    private static List<Class<?>> all() {
        List<Class<?>> all = new ArrayList<>(List.of(FillAndGo.class.getDeclaredClasses()));
        all.add(FillAndGo.class);
        return all;
    }

    private static void members() {
        Set<String> constants = new TreeSet<>(List.of("NONE", "BAD", "STATE", "FULL", "NO"));
        for (Field f : FillAndGo.class.getDeclaredFields()) {
            boolean isPrivate = Modifier.isPrivate(f.getModifiers());
            rule(1, isPrivate != constants.contains(f.getName()), f + " is seen or hidden");
        }
        for (Method m : FillAndGo.class.getDeclaredMethods()) {
            int how = m.getModifiers();
            rule(1, Modifier.isPublic(how) || Modifier.isPrivate(how), m + " is seen");
        }
        for (Constructor<?> c : FillAndGo.class.getDeclaredConstructors()) {
            rule(1, Modifier.isPublic(c.getModifiers()) && c.getParameterCount() == 0, c + " is another one");
        }
        rule(1, Modifier.isFinal(FillAndGo.class.getModifiers()), "the class is not final");
        rule(11, all().size() <= 12, "there are " + all().size() + " classes");
        for (Class<?> c : all()) {
            int fields = 0;
            for (Field f : c.getDeclaredFields()) {
                boolean isStatic = Modifier.isStatic(f.getModifiers());
                rule(5, !isStatic || Modifier.isFinal(f.getModifiers()), f + " is not final");
                if (!isStatic) fields++;
            }
            rule(11, fields <= 20, c + " has " + fields + " fields");
            rule(2, c == FillAndGo.class || Modifier.isStatic(c.getModifiers()), c + " is not static");
        }
    }

    private static void words(String code) {
        String[] banned = {"throw", "throws", "try", "catch", "synchronized", "assert", "import", "package", "var",
            "protected", "Object", "Exception", "hashCode", "Random", "Thread", "Float", "Double", "Long", "HashMap"};
        for (String word : banned) {
            rule(6, !Pattern.compile("\\b" + word + "\\b").matcher(code).find(), "the word " + word);
        }
        rule(2, !code.contains("->") && !code.contains("::"), "a lambda or a method reference");
        rule(4, !code.contains("@"), "an annotation");
        for (int i = 0; i < code.length(); i++) {
            char c = code.charAt(i);
            if (c != '\n' && (c < ' ' || c > '~')) rule(4, false, "the sign " + (int) c);
        }
        Matcher library = Pattern.compile("\\b(Math|Integer|System|Arrays|String|List)\\.(\\w+)").matcher(code);
        Set<String> fine = Set.of("Math.max", "Math.min", "Integer.bitCount", "System.arraycopy");
        while (library.find()) rule(4, fine.contains(library.group()), library.group());
    }

    /** A method begins at a line that ends in "{" one level inside a class, and ends at "}" of the same depth. */
    private static void lengths(String code) {
        String[] lines = code.split("\n");
        Pattern head = Pattern.compile("^( {4}| {8})\\w[\\w\\[\\] ]*\\([^;=]*\\) \\{$");
        for (int i = 0; i < lines.length; i++) {
            Matcher m = head.matcher(lines[i]);
            if (!m.matches() || lines[i].trim().matches("(if|for|while|switch) .*")) continue;
            int end = i;
            while (end < lines.length && !lines[end].equals(m.group(1) + "}")) end++;
            rule(11, end - i <= 60, lines[i].trim() + " is " + (end - i) + " lines long");
        }
    }
}
