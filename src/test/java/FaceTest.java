import java.lang.reflect.Constructor;
import java.lang.reflect.Field;
import java.lang.reflect.Method;
import java.lang.reflect.Modifier;
import java.nio.file.Files;
import java.nio.file.Path;
import java.util.Arrays;
import java.util.Set;
import java.util.TreeSet;
import java.util.regex.Matcher;
import java.util.regex.Pattern;

/** The class shows the document's face and nothing else. */
public final class FaceTest {
    private static final Due due = new Due("FaceTest");

    private static final String[] METHODS = {"int feed 5", "int end 1", "int rules 0", "int fault 1", "int rule 1",
        "int question 2", "int tell 3", "int guess 4", "int holds 3", "int rows 3", "int mean 2", "int ranked 1",
        "int pays 1", "int honest 0", "int copies 2", "int weight 2", "int joined 2", "int together 2", "long luck 2",
        "int tie 3", "int pumps 2", "int mend 3", "int mended 1", "int about 2", "int count 1"};
    private static final String[] CONSTANTS = {"NONE", "RANGE", "FULL", "STATE"};

    public static void main(String[] args) throws Exception {
        wordsOfTheDocument();
        Class<?> face = ForeBook.class;
        due.holds("public and final", Modifier.isPublic(face.getModifiers()) && Modifier.isFinal(face.getModifiers()));
        methods(face);
        constants(face);
        Constructor<?>[] constructors = face.getDeclaredConstructors();
        due.same("constructors", constructors.length, 1);
        due.holds("a public one without arguments", Modifier.isPublic(constructors[0].getModifiers())
                && constructors[0].getParameterCount() == 0);
        for (Class<?> inside : face.getDeclaredClasses()) {
            int is = inside.getModifiers();
            due.holds(inside + " is static and not public",
                    Modifier.isStatic(is) && !Modifier.isPublic(is) && !Modifier.isProtected(is));
        }
        due.same("NONE", ForeBook.NONE, -1);
        due.same("RANGE", ForeBook.RANGE, -2);
        due.same("FULL", ForeBook.FULL, -3);
        due.same("STATE", ForeBook.STATE, -4);
        due.finish();
    }

    /** Each line of the document's face, and each head that it names, in its order. */
    private static void wordsOfTheDocument() throws Exception {
        String source = Files.readString(Path.of("src/main/java/ForeBook.java"));
        String document = Files.readString(Path.of("../shared/DOC.md"));
        int start = document.indexOf("public final class ForeBook {");
        String[] face = document.substring(start, document.indexOf("```", start)).split("\n");
        int at = 0;
        for (String line : face) {
            String told = line.trim().replaceAll("(?<=\\));$", " {");
            int found = source.indexOf(told, at);
            due.holds("the source goes on with " + told, found >= 0);
            at = Math.max(at, found);
        }
        due.same("lines of the face", face.length, 1 + CONSTANTS.length + 1 + METHODS.length + 1);
        Matcher head = Pattern.compile("Ahead of the calls `(\\w+)`.*says: (---- .*)\\.").matcher(document);
        int heads = 0;
        while (head.find()) {
            heads++;
            due.holds(head.group(2) + " stands ahead of " + head.group(1), Pattern.compile(
                    "// " + head.group(2) + "\\s+public \\w+ " + head.group(1) + "\\(").matcher(source).find());
        }
        due.same("heads", heads, 4);
    }

    private static void methods(Class<?> face) {
        Set<String> missing = new TreeSet<>(Arrays.asList(METHODS));
        Set<String> names = new TreeSet<>();
        for (Method m : face.getDeclaredMethods()) {
            if (Modifier.isPrivate(m.getModifiers())) {
                continue;
            }
            String told = m.getReturnType() + " " + m.getName() + " " + m.getParameterCount();
            due.holds(told + " is of the face", missing.remove(told) && Modifier.isPublic(m.getModifiers())
                    && !Modifier.isStatic(m.getModifiers()));
            names.add(m.getName());
            for (Class<?> type : m.getParameterTypes()) {
                due.holds("ints alone in " + told, type == int.class);
            }
        }
        due.holds("no method is missing: " + missing, missing.isEmpty());
        noPrivateNamesake(face, names);
        for (Class<?> inside : face.getDeclaredClasses()) {
            noPrivateNamesake(inside, names);
        }
    }

    private static void noPrivateNamesake(Class<?> type, Set<String> names) {
        for (Method m : type.getDeclaredMethods()) {
            boolean isFace = type == ForeBook.class && Modifier.isPublic(m.getModifiers());
            due.holds(type + " " + m.getName() + " bears a name of its own", isFace || !names.contains(m.getName()));
        }
    }

    private static void constants(Class<?> face) {
        Set<String> missing = new TreeSet<>(Arrays.asList(CONSTANTS));
        for (Field f : face.getDeclaredFields()) {
            if (!Modifier.isPrivate(f.getModifiers())) {
                due.holds(f + " is of the face", missing.remove(f.getName()) && f.getType() == int.class
                        && Modifier.isPublic(f.getModifiers()) && Modifier.isStatic(f.getModifiers()));
            }
            due.holds(f + " is final or no static", Modifier.isFinal(f.getModifiers())
                    || !Modifier.isStatic(f.getModifiers()));
        }
        due.holds("no constant is missing: " + missing, missing.isEmpty());
    }
}
