import java.lang.reflect.Constructor;
import java.lang.reflect.Field;
import java.lang.reflect.Method;
import java.lang.reflect.Modifier;
import java.util.Arrays;
import java.util.Set;
import java.util.TreeSet;

/** The public face, as the document and rule 1 of LANGUAGE.md want it. */
public final class FaceTest {
    private static final String[] METHODS = {
        "int line(int,int,int) IllegalArgumentException,IllegalStateException,UnsupportedOperationException",
        "int poke(int,int) IndexOutOfBoundsException,IllegalStateException",
        "boolean mark(int,boolean) IndexOutOfBoundsException",
        "boolean watch(int,boolean) IndexOutOfBoundsException",
        "int step() ", "int next() ", "int finish() ", "int go() ", "int back() ", "int reverse() ",
        "int goTo(int) IllegalArgumentException",
        "int local(int,int) IndexOutOfBoundsException",
        "int at(int) IndexOutOfBoundsException",
        "int cell(int) IndexOutOfBoundsException",
        "int output(int) IndexOutOfBoundsException",
        "int kept(int) IndexOutOfBoundsException",
        "int told(int) ", "void clear() "};
    private static final String[] CONSTANTS = {
        "NONE -1", "DONE 0", "BREAK 1", "WATCH 2", "END 3", "TRAP 4", "OUT 5", "BEGIN 6"};

    private static final Check check = new Check();

    public static void main(String[] args) throws IllegalAccessException {
        Class<?> face = TraceDebugger.class;
        check.due("public and final", Modifier.toString(face.getModifiers()), "public final");
        methods(face);
        constants(face);
        Constructor<?>[] constructors = face.getDeclaredConstructors();
        check.due("constructors", constructors.length, 1);
        check.due("the constructor", constructors[0].toString(), "public TraceDebugger(int)");
        inner(face);
        check.close();
    }

    private static void methods(Class<?> face) {
        Set<String> seen = new TreeSet<>();
        Set<String> names = new TreeSet<>();
        for (Method m : face.getDeclaredMethods()) {
            if (Modifier.isPrivate(m.getModifiers()) || m.isSynthetic()) continue;
            check.due(m.getName(), Modifier.toString(m.getModifiers()), "public");
            seen.add(m.getReturnType() + " " + m.getName() + "(" + list(m.getParameterTypes()) + ") "
                + list(m.getExceptionTypes()));
            names.add(m.getName());
        }
        check.due("methods", seen, new TreeSet<>(Arrays.asList(METHODS)));
        for (Method m : face.getDeclaredMethods()) {
            if (Modifier.isPrivate(m.getModifiers())) check.due("private " + m.getName(), names.contains(m.getName()), false);
        }
    }

    private static String list(Class<?>[] types) {
        return String.join(",", Arrays.stream(types).map(Class::getSimpleName).toList());
    }

    private static void constants(Class<?> face) throws IllegalAccessException {
        Set<String> seen = new TreeSet<>();
        for (Field f : face.getDeclaredFields()) {
            if (Modifier.isStatic(f.getModifiers())) check.due(f.getName() + " is final", Modifier.isFinal(f.getModifiers()), true);
            if (Modifier.isPrivate(f.getModifiers()) || f.isSynthetic()) continue;
            check.due(f.getName(), Modifier.toString(f.getModifiers()) + " " + f.getType(), "public static final int");
            seen.add(f.getName() + " " + f.getInt(null));
        }
        check.due("constants", seen, new TreeSet<>(Arrays.asList(CONSTANTS)));
    }

    private static void inner(Class<?> face) {
        for (Class<?> c : face.getDeclaredClasses()) {
            int how = c.getModifiers();
            check.due(c.getName() + " is static", Modifier.isStatic(how), true);
            check.due(c.getName() + " is hidden", Modifier.isPublic(how) || Modifier.isProtected(how), false);
        }
    }
}
