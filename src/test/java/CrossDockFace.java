import java.lang.reflect.Constructor;
import java.lang.reflect.Field;
import java.lang.reflect.Method;
import java.lang.reflect.Modifier;
import java.util.Arrays;
import java.util.Set;
import java.util.TreeSet;

/** The class shows the document's face and nothing else. */
public final class CrossDockFace {
    private static final String N = " java.util.NoSuchElementException";
    private static final String A = " java.lang.IllegalArgumentException";
    private static final String S = " java.lang.IllegalStateException";
    private static final String U = " java.lang.UnsupportedOperationException";

    private static final Set<String> FACE = Set.of(
        "int arrive(int, int, int, int)" + A + U,
        "int order(int, int, int, int)" + A + U,
        "void wants(int, int, int)" + N + A,
        "void promised(int, int)" + N + A + S,
        "boolean rule(int, int, boolean)" + N,
        "int full(int, boolean)" + A,
        "int match(int)" + A,
        "boolean exact()",
        "int bound()",
        "int steps()",
        "int pair(int, int)" + N + A,
        "int undo(int)" + N,
        "int split(int, int)" + N + A + S + U,
        "int late(int, int)" + N + A,
        "int arrival(int, int)" + N + A,
        "int wanted(int, int)" + N + A,
        "int saved()",
        "int count(int)");

    public static void main(String[] args) {
        int wrong = 0;
        Class<?> type = CrossDock.class;
        Set<String> open = new TreeSet<>();
        Set<String> names = new TreeSet<>();
        Set<String> hidden = new TreeSet<>();
        for (Method m : type.getDeclaredMethods()) {
            if (Modifier.isPrivate(m.getModifiers())) {
                hidden.add(m.getName());
            } else {
                open.add(told(m));
                names.add(m.getName());
            }
        }
        hidden.retainAll(names);
        wrong += fault(!hidden.isEmpty(), "private methods bear names of the face: " + hidden);
        wrong += fault(!open.equals(FACE), "the face is " + open + ", due is " + new TreeSet<>(FACE));
        wrong += fault(!Modifier.isPublic(type.getModifiers()), "the class is not public");
        wrong += fault(!Modifier.isFinal(type.getModifiers()), "the class is not final");
        for (Field f : type.getDeclaredFields()) {
            wrong += fault(!Modifier.isPrivate(f.getModifiers()), "a field is not private: " + f);
        }
        Constructor<?>[] made = type.getDeclaredConstructors();
        boolean plain = made.length == 1 && made[0].getParameterCount() == 0
            && Modifier.isPublic(made[0].getModifiers());
        wrong += fault(!plain, "the constructors are " + Arrays.toString(made));
        System.out.println(wrong == 0 ? "the face is as due" : wrong + " faults of the face");
        if (wrong != 0) {
            System.exit(1);
        }
    }

    private static int fault(boolean is, String what) {
        if (is) {
            System.out.println(what);
        }
        return is ? 1 : 0;
    }

    private static String told(Method m) {
        StringBuilder text = new StringBuilder();
        text.append(m.getReturnType().getName()).append(' ').append(m.getName()).append('(');
        Class<?>[] of = m.getParameterTypes();
        for (int i = 0; i < of.length; i++) {
            text.append(i == 0 ? "" : ", ").append(of[i].getName());
        }
        text.append(')');
        for (Class<?> thrown : m.getExceptionTypes()) {
            text.append(' ').append(thrown.getName());
        }
        return text.toString();
    }
}
