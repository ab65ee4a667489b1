import java.io.IOException;
import java.lang.reflect.Method;
import java.nio.file.Files;
import java.nio.file.Path;
import java.util.HashMap;
import java.util.List;
import java.util.Map;
import java.util.Set;
import java.util.TreeSet;
import java.util.regex.Matcher;
import java.util.regex.Pattern;
import java.util.stream.Stream;

/** The calls that README.md shows answer what it says behind them, and it shows and names all there is. */
public final class ReadmeTest {
    private static final Path README = Path.of("README.md");
    private static final Path TESTS = Path.of("src/test/java");
    private static final Pattern MAKING = Pattern.compile("TraceDebugger (\\w+) = (new .*?); *(//.*)?");
    private static final Pattern CALL = Pattern.compile("(\\w+)\\.(\\w+\\(.*?\\)); *// ([^:]+)(:.*)?");

    private static final Check check = new Check();
    private static final Map<String, TraceDebugger> objects = new HashMap<>();
    private static final Set<String> shown = new TreeSet<>();

    public static void main(String[] args) throws IOException, ReflectiveOperationException {
        String text = Files.readString(README);
        calls(text.lines().toList());
        eachCallIsShown();
        eachTestIsNamed(text);
        check.due("how to run the tests", text.contains("\n.ci/run\n"), true);
        check.close();
    }

    private static void calls(List<String> lines) throws ReflectiveOperationException {
        boolean inJava = false;
        for (int i = 0; i < lines.size(); i++) {
            String line = lines.get(i).strip();
            if (line.startsWith("```")) inJava = line.equals("```java");
            else if (inJava && !line.isEmpty()) call("README.md:" + (i + 1) + ": " + line, line);
        }
    }

    private static void call(String where, String line) throws ReflectiveOperationException {
        Matcher making = MAKING.matcher(line);
        Matcher call = CALL.matcher(line);
        if (making.matches()) {
            objects.put(making.group(1), Script.made(making.group(2)));
        } else if (call.matches()) {
            shown.add(Script.nameOf(call.group(2)));
            Object got = Script.answer(objects.get(call.group(1)), call.group(2));
            check.due(where, got, Script.due(call.group(3).strip()));
        } else {
            check.due(where, "a line that can't be looked at", "a call with its answer behind it");
        }
    }

    private static void eachCallIsShown() {
        Set<String> face = new TreeSet<>();
        for (Method method : TraceDebugger.class.getMethods()) {
            if (method.getDeclaringClass() == TraceDebugger.class) face.add(method.getName());
        }
        check.due("calls that README.md shows", shown, face);
    }

    private static void eachTestIsNamed(String text) throws IOException {
        try (Stream<Path> files = Files.list(TESTS)) {
            for (Path file : files.sorted().toList()) {
                String name = file.getFileName().toString().replace(".java", "");
                if (name.endsWith("Test")) check.due(name + " in README.md", text.contains(name), true);
            }
        }
    }
}
