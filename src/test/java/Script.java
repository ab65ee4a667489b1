import java.lang.reflect.InvocationTargetException;
import java.lang.reflect.Method;
import java.util.regex.Matcher;
import java.util.regex.Pattern;

/** Calls and answers that stand in a text, as "mark(4, true)" and "BREAK". */
final class Script {
    private static final Pattern MAKING = Pattern.compile("new TraceDebugger\\((-?\\d+)\\)");
    private static final Pattern CALL = Pattern.compile("(\\w+)\\(([^()]*)\\)");

    private Script() {}

    static boolean isMaking(String text) {
        return MAKING.matcher(text).matches();
    }

    static TraceDebugger made(String text) {
        Matcher found = MAKING.matcher(text);
        if (!found.matches()) throw new IllegalArgumentException("no new object: " + text);
        return new TraceDebugger(Integer.parseInt(found.group(1)));
    }

    static String nameOf(String call) {
        return partsOf(call).group(1);
    }

    static boolean isThrown(Object answer) {
        return answer.toString().startsWith("throws ");
    }

    /** What the call answers; "throws .." with the name of what it throws; "nothing" of a void method. */
    static Object answer(TraceDebugger x, String call) throws ReflectiveOperationException {
        Matcher parts = partsOf(call);
        Method method = methodOf(parts.group(1));
        try {
            Object answer = method.invoke(x, arguments(method.getParameterTypes(), parts.group(2)));
            return method.getReturnType() == void.class ? "nothing" : answer;
        } catch (InvocationTargetException e) {
            return "throws " + e.getCause().getClass().getSimpleName();
        }
    }

    /** An answer as it is written: a number, true, false, the name of a constant of the face, or other words. */
    static Object due(String text) throws IllegalAccessException {
        if (text.matches("-?\\d+")) return Integer.valueOf(text);
        if (text.equals("true") || text.equals("false")) return Boolean.valueOf(text);
        try {
            return TraceDebugger.class.getField(text).get(null);
        } catch (NoSuchFieldException e) {
            return text;
        }
    }

    private static Matcher partsOf(String call) {
        Matcher parts = CALL.matcher(call);
        if (!parts.matches()) throw new IllegalArgumentException("no call: " + call);
        return parts;
    }

    private static Method methodOf(String name) {
        for (Method method : TraceDebugger.class.getMethods()) {
            if (method.getDeclaringClass() == TraceDebugger.class && method.getName().equals(name)) return method;
        }
        throw new IllegalArgumentException("no such call: " + name);
    }

    private static Object[] arguments(Class<?>[] types, String text) throws IllegalAccessException {
        String[] words = text.isEmpty() ? new String[0] : text.split(", ");
        Object[] arguments = new Object[words.length];
        if (words.length != types.length) throw new IllegalArgumentException(types.length + " arguments are due: " + text);
        for (int i = 0; i < words.length; i++) arguments[i] = due(words[i]);
        return arguments;
    }
}
