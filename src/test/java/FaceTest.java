import java.lang.reflect.Constructor;
import java.lang.reflect.Field;
import java.lang.reflect.Member;
import java.lang.reflect.Method;
import java.lang.reflect.Modifier;
import java.util.List;
import java.util.Set;
import java.util.TreeSet;

/** The face of the class as it is when compiled: what the document lists, and nothing beside it that is seen. */
public final class FaceTest {
    private static final String[] FACE = {"shade(int,int)", "string(int,int)", "pull(int,int)",
        "untie(int)", "tell(int,int)", "untell()", "pass(int)", "set(int,int)", "shadeOf(int,int)",
        "stringOf(int,int)", "groupAt(int)", "would(int,int,int)", "leastPulls(int)", "reallyDo()",
        "bestHeight(int,int)", "count(int)", "undo()", "type(int)", "clearText()", "fault(int)", "play()"};

    public static void main(String[] arguments) {
        face();
        insides(StringShades.class);
        Check.end();
    }

    private static void face() {
        Check.due("the class is public and final", StringShades.class.getModifiers(),
                Modifier.PUBLIC | Modifier.FINAL);
        Set<String> methods = new TreeSet<>();
        for (Method method : StringShades.class.getDeclaredMethods()) {
            if (isSeen(method)) {
                String whole = method.toString();
                methods.add(whole.substring(whole.indexOf(".") + 1));
                Check.holds(whole, whole.startsWith("public int "));
            }
        }
        Check.holds("the methods are " + methods, methods.equals(Set.of(FACE)));
        Set<String> constants = new TreeSet<>();
        for (Field field : StringShades.class.getDeclaredFields()) {
            if (isSeen(field)) {
                constants.add(field.getName());
            }
        }
        Check.holds("the constants are " + constants, constants.equals(
                Set.of("INVALID_ARGUMENT", "NOT_POSSIBLE", "LIMIT_REACHED", "NOT_FOUND")));
        Constructor<?>[] constructors = StringShades.class.getDeclaredConstructors();
        Check.due("constructors", constructors.length, 1);
        Check.holds("a public one", Modifier.isPublic(constructors[0].getModifiers()));
    }

    private static boolean isSeen(Member member) {
        return !Modifier.isPrivate(member.getModifiers()) && !member.isSynthetic();
    }

    private static Set<String> publicNames() {
        Set<String> names = new TreeSet<>();
        for (String method : FACE) {
            names.add(method.substring(0, method.indexOf('(')));
        }
        return names;
    }

    private static void insides(Class<?> whole) {
        members(whole);
        for (Class<?> inside : whole.getDeclaredClasses()) {
            Check.holds(inside + " is static", Modifier.isStatic(inside.getModifiers()));
            Check.holds(inside + " is not seen", !Modifier.isPublic(inside.getModifiers())
                    && !Modifier.isProtected(inside.getModifiers()));
            members(inside);
        }
    }

    /** "No private method bears the name of a public one." */
    private static void members(Class<?> type) {
        for (Method method : type.getDeclaredMethods()) {
            Check.holds(method + " has a name of its own",
                    Modifier.isPublic(method.getModifiers()) || !publicNames().contains(method.getName()));
            Check.holds(method + " is not of Object",
                    !List.of("equals", "hashCode", "toString").contains(method.getName()));
        }
    }
}
