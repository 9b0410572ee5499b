import java.io.File;
import java.lang.reflect.Method;
import java.lang.reflect.Modifier;
import java.nio.file.Files;
import java.nio.file.Path;
import java.util.Map;
import java.util.TreeMap;
import java.util.regex.Matcher;
import java.util.regex.Pattern;

/** README.md says how to use the class: what it tells is so, and nothing of the face is left out. */
public final class ReadmeTest {
    private static final Due due = new Due("ReadmeTest");
    private static final Pattern CALL = Pattern.compile("book\\.(\\w+)\\(([^)]*)\\);\\s*// (-?\\d+): ");
    private static final Pattern SIGNATURE = Pattern.compile("public ((?:int|long) \\w+\\([^)]*\\));");

    public static void main(String[] args) throws Exception {
        String page = Files.readString(Path.of("README.md"));
        example(page);
        callsAndConstants(page);
        defaults(page);
        tests(page);
        due.finish();
    }

    /** Each line of the example is a call with its answer behind it, but the one that makes the book. */
    private static void example(String page) throws Exception {
        String[] lines = between(page, "```java\n", "```").split("\n");
        ForeBook book = new ForeBook();
        Map<String, Method> face = face();
        due.same("ForeBook book = new ForeBook();", lines[0].equals("ForeBook book = new ForeBook();") ? 1 : 0, 1);
        due.holds("an example with calls", lines.length > 20);
        for (int i = 1; i < lines.length; i++) {
            Matcher call = CALL.matcher(lines[i]);
            boolean isCall = call.lookingAt() && face.containsKey(call.group(1));
            due.holds("a call with its answer: " + lines[i], isCall);
            if (isCall) {
                Number got = (Number) face.get(call.group(1)).invoke(book, numbers(call.group(2)));
                due.same(lines[i], got.longValue(), Long.parseLong(call.group(3)));
            }
        }
    }

    private static Map<String, Method> face() {
        Map<String, Method> face = new TreeMap<>();
        for (Method m : ForeBook.class.getDeclaredMethods()) {
            if (Modifier.isPublic(m.getModifiers())) {
                face.put(m.getName(), m);
            }
        }
        return face;
    }

    private static Object[] numbers(String list) {
        if (list.isBlank()) {
            return new Object[0];
        }
        String[] parts = list.split(",");
        Object[] numbers = new Object[parts.length];
        for (int i = 0; i < parts.length; i++) {
            numbers[i] = Integer.decode(parts[i].trim());
        }
        return numbers;
    }

    private static void callsAndConstants(String page) throws Exception {
        Matcher signature = SIGNATURE.matcher(Files.readString(Path.of("../shared/DOC.md")));
        int found = 0;
        while (signature.find()) {
            found++;
            due.holds("README.md has " + signature.group(1), page.contains("| `" + signature.group(1) + "` | "));
        }
        due.same("calls of the document's face", found, face().size());
        due.holds("README.md has the constructor", page.contains("| `ForeBook()` | "));
        due.holds("README.md has NONE", page.contains("| `NONE` | " + ForeBook.NONE + " |"));
        due.holds("README.md has RANGE", page.contains("| `RANGE` | " + ForeBook.RANGE + " |"));
        due.holds("README.md has FULL", page.contains("| `FULL` | " + ForeBook.FULL + " |"));
        due.holds("README.md has STATE", page.contains("| `STATE` | " + ForeBook.STATE + " |"));
    }

    /** What README.md says holds without a text is what a text of just these lines tells. */
    private static void defaults(String page) {
        StringBuilder text = new StringBuilder();
        Matcher line = Pattern.compile("\\| `[^|]*\\| `([^`]*;)` \\|").matcher(page);
        while (line.find()) {
            text.append(line.group(1));
        }
        ForeBook told = new ForeBook();
        due.same("rules of " + text, Due.rules(told, text.toString()), 5);
        for (int what = 0; what <= 41; what++) {
            due.same("rule(" + what + ")", told.rule(what), new ForeBook().rule(what));
        }
    }

    private static void tests(String page) {
        String[] names = new File("src/test/java").list();
        due.holds("there are tests", names != null);
        for (String name : names == null ? new String[0] : names) {
            if (name.endsWith("Test.java")) {
                due.holds("README.md has " + name, page.contains("| `" + name.replace(".java", "") + "` | "));
            }
        }
        due.holds("README.md says how to run them", page.contains("`bash .ci/run`"));
    }

    private static String between(String text, String start, String end) {
        int from = text.indexOf(start) + start.length();
        int to = text.indexOf(end, from);
        return to < from ? "" : text.substring(from, to);
    }
}
