import java.io.IOException;
import java.lang.reflect.Field;
import java.lang.reflect.Method;
import java.lang.reflect.Modifier;
import java.nio.file.Files;
import java.nio.file.Path;
import java.util.ArrayList;
import java.util.List;
import java.util.Set;
import java.util.TreeSet;
import java.util.regex.Matcher;
import java.util.regex.Pattern;

/** Those rules of LANGUAGE.md that can be seen from the file's words and from the compiled class. */
public final class LanguageTest {
    private static final Path FILE = Path.of("src/main/java/LazyMachine.java");
    // Some of these the rules would allow; the class has no need of them.
    private static final String[] NEVER = {
        "package", "import", "finally", "try", "synchronized", "assert", "double", "float", "System", "Thread", "Object",
        "toString", "hashCode", "equals", "->", "::"
    };
    private static final Set<String> THROWN = Set.of("IllegalStateException", "IllegalArgumentException");
    private static final Set<Class<?>> CONSTANTS =
        Set.of(int.class, long.class, boolean.class, char.class, String.class, int[].class, long[].class, char[].class, byte[].class);

    private static final int MOST_PARAMETERS = 7;
    private static final int MOST_LINES = 60;
    private static final int MOST_CLASSES = 12;
    private static final int MOST_FIELDS = 20;

    public static void main(String[] args) throws IOException {
        String text = Files.readString(FILE);
        String code = text.replaceAll("(?s)/\\*.*?\\*/", "").replaceAll("//.*", "").replaceAll("\"[^\"\n]*\"", "\"\"");
        words(code);
        characters(text);
        methodLengths(text);
        List<Class<?>> classes = new ArrayList<>(List.of(LazyMachine.class.getDeclaredClasses()));
        classes.add(LazyMachine.class);
        holds("rule 11: classes", classes.size() <= MOST_CLASSES);
        names(classes);
        for (Class<?> one : classes) {
            fields(one);
            methods(one);
        }
        Check.end();
    }

    private static void holds(String what, boolean so) {
        Check.due(what, 1, so ? 1 : 0);
    }

    private static void words(String code) {
        for (String never : NEVER) {
            String word = never.matches("\\w+") ? "\\b" + never + "\\b" : never;
            holds("not in the file: " + never, !Pattern.compile(word).matcher(code).find());
        }
        holds("rule 5: no static initialiser", !Pattern.compile("\\bstatic\\s*\\{").matcher(code).find());
        Matcher thrown = Pattern.compile("\\bthrow\\b\\s*(new (\\w+)\\(\"\"\\);)?").matcher(code);
        while (thrown.find()) {
            holds("rule 6: " + thrown.group(), thrown.group(2) != null && THROWN.contains(thrown.group(2)));
        }
        Matcher library = Pattern.compile("\\b(Math|Integer|Long|Arrays)\\.(\\w+)").matcher(code);
        while (library.find()) {
            holds("rule 4: " + library.group(), Set.of("Math.max", "Math.min").contains(library.group()));
        }
    }

    private static void characters(String text) {
        holds("rule 3: characters 0 to 255 alone", text.chars().allMatch(c -> c <= 255));
        holds("no tabs, no lines over 120", text.lines().allMatch(line -> line.length() <= 120 && line.indexOf('\t') < 0));
    }

    /** A method ends with the first brace that stands where its own line begins. */
    private static void methodLengths(String text) {
        String[] lines = text.split("\n");
        for (int i = 0; i < lines.length; i++) {
            Matcher head = Pattern.compile("( {4}| {8})\\w.*\\) ?(throws .*)?\\{").matcher(lines[i]);
            if (head.matches()) {
                int end = i;
                while (!lines[end].equals(head.group(1) + "}")) {
                    end++;
                }
                holds("rule 11: lines of " + lines[i].trim(), end - i < MOST_LINES);
            }
        }
    }

    private static void names(List<Class<?>> classes) {
        Set<String> face = new TreeSet<>();
        for (Method method : LazyMachine.class.getMethods()) {
            face.add(method.getName());
        }
        for (Class<?> one : classes) {
            for (Method method : one.getDeclaredMethods()) {
                boolean hidden = !Modifier.isPublic(method.getModifiers());
                holds("rule 1: " + method, !(hidden && face.contains(method.getName())));
            }
        }
    }

    private static void fields(Class<?> one) {
        int own = 0;
        for (Field field : one.getDeclaredFields()) {
            boolean constant = Modifier.isStatic(field.getModifiers());
            own += constant ? 0 : 1;
            if (constant) {
                holds("rule 5: " + field, Modifier.isFinal(field.getModifiers()) && CONSTANTS.contains(field.getType()));
            }
        }
        holds("rule 11: fields of " + one, own <= MOST_FIELDS);
    }

    private static void methods(Class<?> one) {
        for (Method method : one.getDeclaredMethods()) {
            holds("rule 11: parameters of " + method, method.getParameterCount() <= MOST_PARAMETERS);
            holds("rule 2: " + method, !method.isSynthetic());
        }
    }
}
