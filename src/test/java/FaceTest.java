import java.lang.reflect.Constructor;
import java.lang.reflect.Field;
import java.lang.reflect.Member;
import java.lang.reflect.Method;
import java.lang.reflect.Modifier;
import java.util.Arrays;
import java.util.Set;
import java.util.TreeSet;

/** The public face of the document, and the rules 1 and 5 of LANGUAGE.md, as the compiled class shows them. */
public final class FaceTest {
    private static final String INDEX = " IndexOutOfBoundsException";
    private static final String ARGUMENT = " IllegalArgumentException";
    private static final String STATE = " IllegalStateException";

    private static final Set<String> FACE = new TreeSet<>(Arrays.asList(
            "int setSpring(int, int)" + INDEX + ARGUMENT,
            "int setMill(int, int)" + INDEX + ARGUMENT,
            "boolean setDrought(boolean)",
            "int setFee(int)" + ARGUMENT,
            "int water(int, int)" + INDEX + ARGUMENT + STATE,
            "boolean work(int)" + INDEX + STATE,
            "int barge(int, int, int)" + INDEX + ARGUMENT + STATE,
            "int send(int, int)" + INDEX,
            "int told(int, int)" + INDEX,
            "int pound(int, int)" + INDEX,
            "int lock(int, int)" + INDEX,
            "int count(int)" + INDEX,
            "int pass(int)" + ARGUMENT,
            "int arrives(int)" + INDEX,
            "int foresee(int, int)" + ARGUMENT + INDEX,
            "int advise(int)" + ARGUMENT,
            "int stops()",
            "double mean()",
            "long digest()"));

    public static void main(String[] args) {
        Class<?> c = LockBank.class;
        Checks.due("public final class", c.getModifiers(), Modifier.PUBLIC | Modifier.FINAL);
        Checks.due("no package", c.getPackageName().isEmpty(), true);
        Constructor<?>[] made = c.getDeclaredConstructors();
        Checks.due("constructors", made.length, 1);
        Checks.due("public constructor", made[0].getModifiers(), Modifier.PUBLIC);
        Checks.due("arguments of the constructor", made[0].getParameterCount(), 0);
        dueFace(c);
        dueFields(c);
        for (Class<?> inner : c.getDeclaredClasses()) {
            int m = inner.getModifiers();
            boolean hidden = !Modifier.isPublic(m) && !Modifier.isProtected(m);
            Checks.due("hidden static " + inner.getName(), hidden && Modifier.isStatic(m), true);
            dueNoNameOfTheFace(inner);
            dueFields(inner);
        }
        Checks.end();
    }

    private static void dueFace(Class<?> c) {
        Set<String> found = new TreeSet<>();
        for (Method m : c.getDeclaredMethods()) {
            if (Modifier.isPrivate(m.getModifiers())) {
                continue;
            }
            Checks.due("modifiers of " + m.getName(), m.getModifiers(), Modifier.PUBLIC);
            found.add(inWords(m));
        }
        if (!found.equals(FACE)) {
            System.out.println("the face is " + found);
        }
        Checks.due("the face is the document's", found.equals(FACE), true);
    }

    private static String inWords(Method m) {
        StringBuilder s = new StringBuilder(m.getReturnType().getSimpleName() + " " + m.getName() + "(");
        for (int i = 0; i < m.getParameterCount(); i++) {
            s.append(i == 0 ? "" : ", ").append(m.getParameterTypes()[i].getSimpleName());
        }
        s.append(")");
        for (Class<?> e : m.getExceptionTypes()) {
            s.append(" ").append(e.getSimpleName());
        }
        return s.toString();
    }

    private static void dueNoNameOfTheFace(Class<?> inner) {
        for (Method m : inner.getDeclaredMethods()) {
            boolean ofTheFace = FACE.stream().anyMatch(f -> f.contains(" " + m.getName() + "("));
            Checks.due("a name of the face on a hidden method " + m.getName(), ofTheFace, false);
        }
    }

    private static void dueFields(Class<?> c) {
        int own = 0;
        for (Field f : c.getDeclaredFields()) {
            if (Modifier.isStatic(f.getModifiers())) {
                Checks.due("final " + f.getName(), Modifier.isFinal(f.getModifiers()), true);
            } else {
                own++;
            }
            if (c == LockBank.class) {
                Checks.due("private " + f.getName(), isPrivate(f), true);
            }
        }
        Checks.due("some twenty fields in " + c.getName(), own <= 20, true);
    }

    private static boolean isPrivate(Member m) {
        return Modifier.isPrivate(m.getModifiers());
    }
}
