import java.lang.reflect.Constructor;
import java.lang.reflect.Field;
import java.lang.reflect.Method;
import java.lang.reflect.Modifier;
import java.nio.file.Files;
import java.nio.file.Path;
import java.util.regex.Matcher;
import java.util.regex.Pattern;

/** Those rules of LANGUAGE.md that can be seen from the words of the source, and the room a run takes. */
public final class LanguageTest {
    private static final Due due = new Due("LanguageTest");

    public static void main(String[] args) throws Exception {
        String source = Files.readString(Path.of("src/main/java/ForeBook.java"))
                .replaceAll("(?s)/\\*.*?\\*/", " ").replaceAll("//[^\n]*", " ");
        String[] refused = {"throw", "throws", "try", "catch", "finally", "synchronized", "assert", "package", "native",
            "volatile", "transient", "double", "float", "protected", "hashCode", "toString", "Exact", "Object"};
        for (String word : refused) {
            due.same("the word " + word, countOf(source, "\\b\\w*" + word + "\\b"), 0);
        }
        due.same("lambdas", countOf(source, "->"), 0);
        due.same("method references", countOf(source, "::"), 0);
        due.same("static blocks", countOf(source, "static\\s*\\{"), 0);
        due.same("imports but java.util.Arrays", countOf(source, "import (?!java\\.util\\.Arrays;)"), 0);
        due.same("loops without a test", countOf(source, "while\\s*\\(true\\)|for\\s*\\([^;]*;\\s*;"), 0);
        due.holds("at most twelve classes", countOf(source, "\\b(class|enum|record|interface)\\s") <= 12);
        due.same("texts joined by +", countOf(source, "\"\\s*\\+|\\+\\s*\""), 0);
        due.same("arrays of two dimensions", countOf(source, "\\]\\s*\\["), 0);
        due.same("signs beyond 127", countOf(source, "[^\\x00-\\x7f]"), 0);
        lengthsOfMethods(source);
        sizesOfClasses();
        room();
        due.finish();
    }

    private static int countOf(String source, String pattern) {
        Matcher matcher = Pattern.compile(pattern).matcher(source);
        int found = 0;
        while (matcher.find()) {
            found++;
        }
        return found;
    }

    /** A method of the face stands in by four, one of a class inside by eight. */
    private static void lengthsOfMethods(String source) {
        Matcher method = Pattern.compile("(?ms)^( {4}| {8})(?! )[^\\n;=]*\\) \\{\\n.*?^\\1\\}").matcher(source);
        int found = 0;
        while (method.find()) {
            found++;
            String head = method.group().substring(0, method.group().indexOf('\n')).trim();
            due.holds(head + " has at most sixty lines", method.group().split("\n").length <= 60);
        }
        due.holds("methods were found: " + found, found > 90);
    }

    private static void sizesOfClasses() {
        sizeOf(ForeBook.class);
        for (Class<?> inside : ForeBook.class.getDeclaredClasses()) {
            sizeOf(inside);
        }
    }

    private static void sizeOf(Class<?> type) {
        int fields = 0;
        for (Field f : type.getDeclaredFields()) {
            fields += Modifier.isStatic(f.getModifiers()) ? 0 : 1;
        }
        due.holds(type + " has at most twenty fields", fields <= 20);
        for (Method m : type.getDeclaredMethods()) {
            due.holds(m + " takes at most seven", m.getParameterCount() <= 7);
        }
        for (Constructor<?> c : type.getDeclaredConstructors()) {
            due.holds(c + " takes at most seven", c.getParameterCount() <= 7);
        }
    }

    /** A book as full as it can be, asked the dearest calls, stays far below one run's room. */
    private static void room() {
        com.sun.management.ThreadMXBean threads =
                (com.sun.management.ThreadMXBean) java.lang.management.ManagementFactory.getThreadMXBean();
        fullBook();
        long before = threads.getCurrentThreadAllocatedBytes();
        ForeBook x = fullBook();
        long full = threads.getCurrentThreadAllocatedBytes();
        for (int i = 0; i < 80; i++) {
            x.luck(i % 20, 2);
            x.tell(i % 20, i & 1, 100);
        }
        long asked = threads.getCurrentThreadAllocatedBytes();
        due.holds("a full book takes less than 64 KiB", full - before < 65536);
        due.holds("calls of luck make next to nothing", asked - full < 4096);
    }

    private static ForeBook fullBook() {
        ForeBook x = new ForeBook();
        Due.rules(x, "missing half;weights past;copy 30 9;");
        for (int q = 0; q < 20; q++) {
            x.question(q, q + 59);
        }
        for (int i = 0; i < 300; i++) {
            x.guess(i % 20, i / 20, i / 20 + i % 20, i * 7 % 11);
        }
        for (int q = 0; q < 20; q++) {
            x.tell(q, q & 1, 100);
        }
        return x;
    }
}
