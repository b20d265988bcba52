import java.lang.reflect.Constructor;
import java.lang.reflect.Field;
import java.lang.reflect.Member;
import java.lang.reflect.Method;
import java.lang.reflect.Modifier;
import java.util.Arrays;
import java.util.Set;
import java.util.TreeSet;

/** The public face is the document's, and the class has nothing else that can be seen. */
public final class FaceTest {
    private static final Due due = new Due("face");
    private static final Set<String> METHODS = new TreeSet<>(Set.of(
            "void component(int, int, long)", "int seal()", "void poke(int, long)", "long peek(int)",
            "void message(int, long)", "int load(int, int, boolean)", "int clear(int)", "int usage(int)",
            "int wrap(int)", "int unwrap(int)", "int terminal(int, int, long)", "int next(int)", "int skip(int, int)",
            "int check(int)", "int pin(int, int, long, long, long)", "int translate(int, int, int, long, long)",
            "int verify(int, int, long, int)", "int code(int, int)"));

    public static void main(String[] args) {
        int modifiers = PinModule.class.getModifiers();
        due.holds("public and final", Modifier.isPublic(modifiers) && Modifier.isFinal(modifiers));
        methods();
        constructors();
        for (Field field : PinModule.class.getDeclaredFields()) {
            due.holds(field + " is private", hidden(field));
        }
        due.end();
    }

    private static boolean hidden(Member member) {
        return Modifier.isPrivate(member.getModifiers()) || member.isSynthetic();
    }

    private static void methods() {
        Set<String> seen = new TreeSet<>();
        Set<String> publicNames = new TreeSet<>();
        for (Method method : PinModule.class.getDeclaredMethods()) {
            if (!hidden(method)) {
                due.holds(method + " is public and no more", method.getModifiers() == Modifier.PUBLIC);
                seen.add(signature(method));
                publicNames.add(method.getName());
            }
        }
        due.holds("the methods are the document's: " + seen, seen.equals(METHODS));
        for (Class<?> owner : PinModule.class.getDeclaredClasses()) {
            due.holds(owner + " is static", Modifier.isStatic(owner.getModifiers()));
        }
        for (Method method : PinModule.class.getDeclaredMethods()) {
            due.holds(method + " bears no public name", !hidden(method) || !publicNames.contains(method.getName()));
        }
    }

    private static String signature(Method method) {
        String parameters = Arrays.toString(method.getParameterTypes());
        return method.getReturnType() + " " + method.getName() + "(" + parameters.substring(1, parameters.length() - 1) + ")";
    }

    private static void constructors() {
        Constructor<?>[] all = PinModule.class.getDeclaredConstructors();
        due.is("constructors", all.length, 1);
        due.holds("it is public, without parameters", all[0].getParameterCount() == 0
                && all[0].getModifiers() == Modifier.PUBLIC);
    }
}
