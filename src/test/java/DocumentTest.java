import java.io.IOException;
import java.nio.file.Files;
import java.nio.file.Path;
import java.util.List;

/**
 * Each sentence of the document, in its order, with calls that would answer otherwise if it were broken.
 * They stand in src/test/document.txt, whose first lines say how they are written.
 */
public final class DocumentTest {
    private static final Path SENTENCES = Path.of("src/test/document.txt");
    private static final Path DOCUMENT = Path.of("../shared/DOC.md");
    private static final String SENTENCE = "> ", OF_NO_CALL = ">> ";

    private static final Check check = new Check();
    private static final StringBuilder quoted = new StringBuilder();
    private static TraceDebugger x;
    private static boolean hasCalls = true;

    public static void main(String[] args) throws IOException, ReflectiveOperationException {
        for (String row : Files.readAllLines(SENTENCES)) row(row.strip());
        check.due("it has calls", hasCalls, true);
        everySentence();
        check.close();
    }

    private static void row(String row) throws ReflectiveOperationException {
        if (row.isEmpty() || row.startsWith("#")) return;
        if (row.startsWith(SENTENCE)) {
            sentence(row.substring(SENTENCE.length()));
            hasCalls = false;
        } else if (row.startsWith(OF_NO_CALL)) {
            sentence(row.substring(OF_NO_CALL.length()));
        } else {
            for (String call : row.replaceFirst(" *//.*", "").split("; *")) call(call);
            hasCalls = true;
        }
    }

    private static void sentence(String words) {
        check.due("it has calls", hasCalls, true);
        check.sentence(words);
        quoted.append(words).append(' ');
        // So that no sentence leans on the calls of the one before it.
        x = null;
    }

    private static void call(String text) throws ReflectiveOperationException {
        String[] sides = text.split(" = ");
        String[] times = text.split(" times ");
        if (Script.isMaking(text)) x = Script.made(text);
        else if (times.length == 2) repeat(Integer.parseInt(times[0]), times[1]);
        else if (sides.length == 2) ask(sides[0], sides[1]);
        else repeat(1, text);
    }

    private static void repeat(int times, String call) throws ReflectiveOperationException {
        for (int n = 0; n < times; n++) check.due(call, Script.isThrown(answer(call)), false);
    }

    private static void ask(String call, String due) throws ReflectiveOperationException {
        String before = Picture.of(x);
        check.due(call, answer(call), wanted(call, due));
        if (Script.isThrown(due)) check.due(call + ", and what it leaves", Picture.of(x), before);
    }

    private static Object answer(String call) throws ReflectiveOperationException {
        switch (call) {
            case "all": return Picture.of(x);
            case "kept": return Picture.keptOf(x).strip();
            case "told": return tellings();
            default: return Script.answer(x, call);
        }
    }

    private static Object wanted(String call, String due) throws ReflectiveOperationException {
        if (call.equals("all")) return Picture.of(Script.made(due));
        // Of more than one answer, as behind "kept", the text is compared.
        return call.endsWith(")") ? Script.due(due) : due;
    }

    private static String tellings() {
        StringBuilder text = new StringBuilder();
        for (int what = 0; what <= 6; what++) text.append(' ').append(x.told(what));
        return text.toString().strip();
    }

    /** No sentence of the document is left out, and none is quoted that does not stand there. */
    private static void everySentence() throws IOException {
        if (!Files.exists(DOCUMENT)) {
            System.out.println(DOCUMENT + " is not here: whether each sentence is quoted was not looked at");
            return;
        }
        check.sentence("every sentence of the document");
        String want = plain(Files.readAllLines(DOCUMENT));
        String got = quoted.toString().strip();
        int same = 0;
        while (same < Math.min(want.length(), got.length()) && want.charAt(same) == got.charAt(same)) same++;
        int from = Math.max(0, same - 20);
        check.due("quoted", cut(got, from), cut(want, from));
    }

    private static String cut(String text, int from) {
        return text.substring(from, Math.min(text.length(), from + 80));
    }

    /** Without headings, signatures, the lines that open and close a block, and the block of the face, which FaceTest looks at. */
    private static String plain(List<String> lines) {
        StringBuilder text = new StringBuilder();
        boolean inFace = false;
        for (String line : lines) {
            if (line.startsWith("```")) inFace = line.equals("```java");
            boolean left = line.startsWith("```") || line.startsWith("#") || inFace;
            if (!left) text.append(line.replaceFirst("^`[^`]*`: ", "")).append(' ');
        }
        return text.toString().replaceAll("\\s+", " ").strip();
    }
}
