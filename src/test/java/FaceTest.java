import java.lang.reflect.Constructor;
import java.lang.reflect.Field;
import java.lang.reflect.InvocationTargetException;
import java.lang.reflect.Method;
import java.lang.reflect.Modifier;
import java.util.Set;
import java.util.TreeSet;

/** The public face is the document's and no more, and no argument whatever makes a call throw. */
public final class FaceTest {
    private static final String[] METHODS = {
        "int lane(int, int, int, int)", "int takeLane(int)", "int close(int, boolean)", "int rank(int, int)",
        "int alley(int, int, int)", "int takeAlley(int)", "int tellAll()", "int type(char)", "int clearText()",
        "int fault()", "int undo()", "int keep()", "int restore()", "int laneOf(int, int)", "int alleyOf(int, int)",
        "int crossingOf(int, int)", "int within(int, int, int)", "int total(int, int, int)", "int walk(int, int, int)",
        "int shortest(int, int)", "float stretch(int, int)", "int count(int)", "int ifClosed(int, int)",
        "int weakest()", "int bestGate(int, int)"};
    private static final String[] CONSTANTS = {"UNKNOWN = -1", "BAD_VALUE = -2", "FULL = -3", "NONE = -5"};
    private static final int[] NUMBERS = {Integer.MIN_VALUE, Integer.MIN_VALUE + 1, -1000000, -25, -15, -5, -2, -1, 0, 1,
        2, 3, 4, 5, 6, 9, 10, 11, 12, 13, 14, 20, 21, 23, 24, 31, 32, 60, 196, 1 << 16, 1 << 28, Integer.MAX_VALUE};

    private static int wrong = 0;
    private static long seed = 7;

    private FaceTest() {
    }

    private static void check(boolean holds, String what) {
        if (!holds) {
            wrong++;
            System.out.println("does not hold: " + what);
        }
    }

    private static int draw(int bound) {
        seed = seed * 6364136223846793005L + 1442695040888963407L;
        return (int) ((seed >>> 33) % bound);
    }

    private static String signature(Method m) {
        StringBuilder s = new StringBuilder(m.getReturnType().getName() + " " + m.getName() + "(");
        for (Class<?> type : m.getParameterTypes()) {
            s.append(s.charAt(s.length() - 1) == '(' ? "" : ", ").append(type.getName());
        }
        return s + ")";
    }

    private static void members() throws IllegalAccessException {
        Class<?> face = DistrictTotals.class;
        check(Modifier.isPublic(face.getModifiers()) && Modifier.isFinal(face.getModifiers()), "public final class");
        Set<String> methods = new TreeSet<>();
        Set<String> names = new TreeSet<>();
        for (Method m : face.getDeclaredMethods()) {
            if (Modifier.isPublic(m.getModifiers())) {
                methods.add(signature(m));
                names.add(m.getName());
            }
        }
        check(methods.equals(new TreeSet<>(Set.of(METHODS))), "the methods of the face, got " + methods);
        for (Method m : face.getDeclaredMethods()) {
            boolean open = Modifier.isPublic(m.getModifiers());
            check(open || Modifier.isPrivate(m.getModifiers()), m + " is private");
            check(open || !names.contains(m.getName()), m + " bears a name of its own");
        }
        Set<String> constants = new TreeSet<>();
        for (Field f : face.getDeclaredFields()) {
            int kind = f.getModifiers();
            if (Modifier.isPublic(kind)) {
                constants.add(f.getName() + " = " + f.getInt(null));
            }
            check(Modifier.isPublic(kind) || Modifier.isPrivate(kind), f + " is private");
            check(!Modifier.isStatic(kind) || Modifier.isFinal(kind), f + " is final");
        }
        check(constants.equals(new TreeSet<>(Set.of(CONSTANTS))), "the constants of the face, got " + constants);
        Constructor<?>[] made = face.getDeclaredConstructors();
        check(made.length == 1 && Modifier.isPublic(made[0].getModifiers()) && made[0].getParameterCount() == 0,
                "one public constructor without parameters");
        for (Class<?> inside : face.getDeclaredClasses()) {
            check(Modifier.isStatic(inside.getModifiers()), inside + " is static");
            check(!Modifier.isPublic(inside.getModifiers()) && !Modifier.isProtected(inside.getModifiers()),
                    inside + " is not public");
        }
    }

    private static Object argument(Class<?> type) {
        if (type == boolean.class) {
            return draw(2) == 0;
        }
        if (type == char.class) {
            return draw(4) == 0 ? (char) draw(65536) : "0123-*:+;a".charAt(draw(10));
        }
        return draw(3) == 0 ? NUMBERS[draw(NUMBERS.length)] : draw(14);
    }

    private static void anyArguments() throws IllegalAccessException {
        Method[] methods = DistrictTotals.class.getMethods();
        for (int run = 0; run < 400; run++) {
            DistrictTotals x = new DistrictTotals();
            for (int call = 0; call < 512; call++) {
                Method m = methods[draw(methods.length)];
                if (m.getDeclaringClass() != DistrictTotals.class) {
                    continue;
                }
                Object[] arguments = new Object[m.getParameterCount()];
                for (int i = 0; i < arguments.length; i++) {
                    arguments[i] = argument(m.getParameterTypes()[i]);
                }
                try {
                    m.invoke(x, arguments);
                } catch (InvocationTargetException thrown) {
                    check(false, m.getName() + " threw " + thrown.getCause());
                }
            }
        }
    }

    public static void main(String[] args) throws IllegalAccessException {
        members();
        anyArguments();
        System.out.println(wrong == 0 ? "the face is the document's" : wrong + " things do not hold of the face");
        if (wrong != 0) {
            System.exit(1);
        }
    }
}
