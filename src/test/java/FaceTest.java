import java.lang.reflect.Constructor;
import java.lang.reflect.Field;
import java.lang.reflect.Member;
import java.lang.reflect.Method;
import java.lang.reflect.Modifier;
import java.util.Arrays;
import java.util.Set;
import java.util.TreeSet;

/** The public face of the document, no more and no less, and the values of its constants. */
public final class FaceTest {
    private static final String[] METHODS = {
        "int tellClass(int, int, boolean, boolean)", "int tellInterface(int, boolean)", "int implement(int, int)",
        "int nest(int, int)", "int field(int, int, int, boolean)", "int method(int, int, int, int)",
        "int untell(int, int, int)", "int resolve(int, int, int, int)", "int choices()",
        "int use(int, int, int, boolean)", "int invoke(int, int, int, int, int)", "boolean isA(int, int)",
        "boolean mates(int, int)", "boolean overrides(int, int, int)", "int maximal(int, int)", "int type(int, int)"};
    private static final String[] CONSTANTS = {"REFUSED=-1", "FULL=-2", "NO_FIELD=-3", "NO_METHOD=-4", "ACCESS=-5",
        "CHANGE=-6", "ABSTRACT=-7"};
    private static final Due due = new Due("FaceTest");

    public static void main(String[] args) throws IllegalAccessException {
        Class<?> face = MemberOracle.class;
        due.is("public and final", face.getModifiers(), Modifier.PUBLIC | Modifier.FINAL);
        methods(face);
        constants(face);
        constructors(face);
        due.end();
    }

    private static boolean isSeen(Member member) {
        return !Modifier.isPrivate(member.getModifiers()) && !member.isSynthetic();
    }

    private static void compare(String what, Set<String> got, String[] want) {
        Set<String> due0 = new TreeSet<>(Arrays.asList(want));
        if (!got.equals(due0)) {
            System.out.println(what + ": " + got + " is not " + due0);
        }
        due.is(what, got.equals(due0), true);
    }

    private static String signature(Method method) {
        String types = Arrays.toString(method.getParameterTypes());
        return method.getReturnType() + " " + method.getName() + "(" + types.substring(1, types.length() - 1) + ")";
    }

    private static void methods(Class<?> face) {
        Set<String> seen = new TreeSet<>();
        Set<String> names = new TreeSet<>();
        for (Method method : face.getDeclaredMethods()) {
            if (isSeen(method)) {
                seen.add(signature(method));
                names.add(method.getName());
                due.is(method.getName() + " is public alone", method.getModifiers(), Modifier.PUBLIC);
            }
        }
        compare("methods", seen, METHODS);
        for (Method method : face.getDeclaredMethods()) {
            boolean clash = !isSeen(method) && names.contains(method.getName());
            due.is("private " + method.getName() + " bears a public name", clash, false);
        }
    }

    private static void constants(Class<?> face) throws IllegalAccessException {
        Set<String> seen = new TreeSet<>();
        for (Field field : face.getDeclaredFields()) {
            if (isSeen(field)) {
                seen.add(field.getName() + "=" + field.getInt(null));
                int want = Modifier.PUBLIC | Modifier.STATIC | Modifier.FINAL;
                due.is(field.getName() + " is a constant", field.getModifiers(), want);
            } else if (Modifier.isStatic(field.getModifiers())) {
                due.is(field.getName() + " is final", Modifier.isFinal(field.getModifiers()), true);
            }
        }
        compare("constants", seen, CONSTANTS);
    }

    private static void constructors(Class<?> face) {
        Constructor<?>[] all = face.getDeclaredConstructors();
        due.is("constructors", all.length, 1);
        due.is("parameters", all[0].getParameterCount(), 0);
        due.is("public", all[0].getModifiers(), Modifier.PUBLIC);
    }
}
