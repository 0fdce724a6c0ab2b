import java.lang.reflect.Constructor;
import java.lang.reflect.Field;
import java.lang.reflect.Member;
import java.lang.reflect.Method;
import java.lang.reflect.Modifier;
import java.nio.file.Files;
import java.nio.file.Path;
import java.util.List;
import java.util.Set;
import java.util.TreeSet;
import java.util.regex.Matcher;
import java.util.regex.Pattern;

/** Those rules of ../shared/LANGUAGE.md that can be seen without running the program. */
public final class LanguageTest {
    private static final String[] FACE = {"shade(int,int)", "string(int,int)", "pull(int,int)",
        "untie(int)", "tell(int,int)", "untell()", "pass(int)", "set(int,int)", "shadeOf(int,int)",
        "stringOf(int,int)", "groupAt(int)", "would(int,int,int)", "leastPulls(int)", "reallyDo()",
        "bestHeight(int,int)", "count(int)", "undo()", "type(int)", "clearText()", "fault(int)", "play()"};
    private static final String[] NOT_THERE = {"throw", "throws", "try", "catch", "finally",
        "synchronized", "assert", "import", "package", "->", "::", "volatile", "native", "record"};
    private static final int LONGEST_METHOD = 60;

    public static void main(String[] arguments) throws Exception {
        face();
        insides(StringShades.class);
        words();
        lengths();
        Check.end();
    }

    private static void face() {
        Check.due("the class is public and final", StringShades.class.getModifiers(),
                Modifier.PUBLIC | Modifier.FINAL);
        Set<String> methods = new TreeSet<>();
        for (Method method : StringShades.class.getDeclaredMethods()) {
            if (isSeen(method)) {
                String whole = method.toString();
                methods.add(whole.substring(whole.indexOf(".") + 1));
                Check.holds(whole, whole.startsWith("public int "));
            }
        }
        Check.holds("the methods are " + methods, methods.equals(Set.of(FACE)));
        Set<String> constants = new TreeSet<>();
        for (Field field : StringShades.class.getDeclaredFields()) {
            if (isSeen(field)) {
                constants.add(field.getName());
            }
        }
        Check.holds("the constants are " + constants, constants.equals(
                Set.of("INVALID_ARGUMENT", "NOT_POSSIBLE", "LIMIT_REACHED", "NOT_FOUND")));
        Constructor<?>[] constructors = StringShades.class.getDeclaredConstructors();
        Check.due("constructors", constructors.length, 1);
        Check.holds("a public one", Modifier.isPublic(constructors[0].getModifiers()));
    }

    private static boolean isSeen(Member member) {
        return !Modifier.isPrivate(member.getModifiers()) && !member.isSynthetic();
    }

    private static Set<String> publicNames() {
        Set<String> names = new TreeSet<>();
        for (String method : FACE) {
            names.add(method.substring(0, method.indexOf('(')));
        }
        return names;
    }

    private static void insides(Class<?> whole) {
        Class<?>[] classes = whole.getDeclaredClasses();
        Check.holds("some twelve classes", classes.length < 12);
        members(whole);
        for (Class<?> inside : classes) {
            Check.holds(inside + " is static", Modifier.isStatic(inside.getModifiers()));
            Check.holds(inside + " is not seen", !Modifier.isPublic(inside.getModifiers())
                    && !Modifier.isProtected(inside.getModifiers()));
            Check.due(inside + " has classes", inside.getDeclaredClasses().length, 0);
            members(inside);
        }
    }

    private static void members(Class<?> type) {
        int fields = 0;
        for (Field field : type.getDeclaredFields()) {
            boolean isStatic = Modifier.isStatic(field.getModifiers());
            Check.holds(field + " is final if static", !isStatic || Modifier.isFinal(field.getModifiers()));
            fields += isStatic ? 0 : 1;
        }
        Check.holds(type + " has some twenty fields", fields <= 20);
        for (Method method : type.getDeclaredMethods()) {
            Check.holds(method + " has few parameters", method.getParameterCount() <= 7);
            Check.holds(method + " has a name of its own",
                    Modifier.isPublic(method.getModifiers()) || !publicNames().contains(method.getName()));
            Check.holds(method + " is not of Object",
                    !List.of("equals", "hashCode", "toString").contains(method.getName()));
        }
    }

    private static String code() throws Exception {
        String source = Files.readString(Path.of("src/main/java/StringShades.java"));
        return source.replaceAll("(?s)/\\*.*?\\*/", "").replaceAll("//[^\n]*", "");
    }

    private static void words() throws Exception {
        String code = code();
        for (String word : NOT_THERE) {
            boolean letters = word.matches("[a-z]+");
            Matcher matcher = Pattern.compile(letters ? "\\b" + word + "\\b" : word).matcher(code);
            Check.holds("no '" + word + "'", !matcher.find());
        }
        Matcher library = Pattern.compile("\\b([A-Z][a-z]\\w*)\\.(\\w+)\\(").matcher(code);
        Set<String> used = new TreeSet<>();
        while (library.find()) {
            used.add(library.group(1));
        }
        used.removeAll(Set.of("Math", "Integer", "Long", "System", "Arrays", "Work", "Sun"));
        Check.holds("no other library than " + used, used.isEmpty());
        Matcher system = Pattern.compile("System\\.(\\w+)").matcher(code);
        while (system.find()) {
            Check.holds("System." + system.group(1), system.group(1).equals("arraycopy"));
        }
        Check.holds("signs 1 to 127", code.chars().allMatch(sign -> sign > 0 && sign < 128));
    }

    /** By the indents: a member stands 4 or 8 blanks in, and its last line is a brace there. */
    private static void lengths() throws Exception {
        String[] lines = code().split("\n");
        for (int indent : new int[] {4, 8}) {
            String blanks = " ".repeat(indent);
            int start = 0;
            for (int line = 0; line < lines.length; line++) {
                boolean isClass = lines[line].contains(" class ");
                if (lines[line].matches(blanks + "\\S.*\\) \\{") && !isClass) {
                    start = line;
                }
                if (lines[line].equals(blanks + "}") && start > 0) {
                    Check.holds("line " + start + " begins a short method", line - start < LONGEST_METHOD);
                    start = 0;
                }
            }
        }
    }
}
