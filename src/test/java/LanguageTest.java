import java.io.IOException;
import java.lang.reflect.Constructor;
import java.lang.reflect.Executable;
import java.lang.reflect.Field;
import java.lang.reflect.Method;
import java.lang.reflect.Modifier;
import java.nio.file.Files;
import java.nio.file.Path;
import java.util.ArrayList;
import java.util.Arrays;
import java.util.List;
import java.util.regex.Matcher;
import java.util.regex.Pattern;

/** The rules of LANGUAGE.md, as far as the class and its text show them without a compiler of their own. */
public final class LanguageTest {
    private static final Path SOURCE = Path.of("src/main/java/TraceDebugger.java");
    private static final String[][] RULED_OUT = {
        {"1", "\\bpackage\\b", "\\bprotected\\b"},
        {"2", "->", "::"},
        {"4", "\\bimport\\b", "\\bjava\\.", "\\bSystem\\.(?!arraycopy\\b)", "\\w+Exact\\b", "\\bMath\\.(?!max\\b|min\\b|abs\\b|floor)"},
        {"5", "\\bstatic\\s*\\{"},
        {"6", "\\bfinally\\b", "\\bsynchronized\\b", "\\bassert\\b", "\\bcatch\\b", "\\btry\\b", "\\bhashCode\\b", "\\btoString\\b",
            "throw (?!new (IndexOutOfBounds|IllegalArgument|IllegalState|UnsupportedOperation)Exception\\(\\);)"},
        {"9", "while \\(true\\)", "for \\(;;\\)"},
        {"13", "\\bRandom\\b", "\\bThread\\b", "\\bcurrentTimeMillis\\b", "\\bnanoTime\\b"}};

    private static final Check check = new Check();

    public static void main(String[] args) throws IOException {
        ruledOut(withoutComments(Files.readString(SOURCE)));
        lengths(Files.readAllLines(SOURCE));
        List<Class<?>> classes = new ArrayList<>(Arrays.asList(TraceDebugger.class.getDeclaredClasses()));
        classes.add(TraceDebugger.class);
        check.due("rule 11: some twelve classes", classes.size() <= 12, true);
        for (Class<?> c : classes) rulesOf(c);
        check.close();
    }

    private static String withoutComments(String text) {
        return text.replaceAll("(?s)/\\*.*?\\*/", "").replaceAll("//[^\n]*", "");
    }

    private static void ruledOut(String text) {
        for (String[] rule : RULED_OUT) {
            for (int i = 1; i < rule.length; i++) {
                Matcher found = Pattern.compile(rule[i]).matcher(text);
                check.due("rule " + rule[0] + ", " + rule[i], found.find() ? found.group() : "none", "none");
            }
        }
    }

    /** From a line that opens a method to the one that closes it, by how far they stand in. */
    private static void lengths(List<String> lines) {
        int start = -1;
        for (int i = 0; i < lines.size(); i++) {
            String line = lines.get(i);
            boolean opens = line.matches("( {4}| {8})[\\w\\[\\] ]+ ?\\(.*") && !line.endsWith(";");
            if (opens) start = i;
            if (start >= 0 && line.matches("( {4}| {8})\\}")) {
                check.due("rule 11: lines of the method at " + (start + 1), i - start < 60, true);
                start = -1;
            }
        }
    }

    private static void rulesOf(Class<?> c) {
        int fields = 0;
        for (Field f : c.getDeclaredFields()) {
            if (f.isSynthetic()) continue;
            if (Modifier.isStatic(f.getModifiers())) {
                boolean constant = Modifier.isFinal(f.getModifiers()) && f.getType().isPrimitive();
                check.due("rule 5: " + c.getName() + "." + f.getName(), constant, true);
            } else {
                fields++;
            }
        }
        check.due("rule 11: fields of " + c.getName(), fields <= 20, true);
        for (Method m : c.getDeclaredMethods()) parameters(m);
        for (Constructor<?> constructor : c.getDeclaredConstructors()) parameters(constructor);
    }

    private static void parameters(Executable e) {
        check.due("rule 11: parameters of " + e.getName(), e.getParameterCount() <= 7, true);
    }
}
