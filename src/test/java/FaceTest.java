import java.lang.reflect.Constructor;
import java.lang.reflect.Field;
import java.lang.reflect.Method;
import java.lang.reflect.Modifier;
import java.util.Arrays;
import java.util.Set;
import java.util.TreeSet;

/** The class has the document's face and shows nothing else. */
public final class FaceTest {
    private static final Set<String> FACE = Set.of(
        "int put(int, int) IllegalArgumentException",
        "int load()",
        "void restart() IllegalStateException",
        "int run(int) IllegalStateException IllegalArgumentException",
        "int result(int) IllegalStateException",
        "int into(int) IllegalStateException IllegalArgumentException",
        "int apply(int) IllegalStateException",
        "int count(int)");

    public static void main(String[] args) {
        Class<?> face = LazyMachine.class;
        same("public final class", Modifier.PUBLIC | Modifier.FINAL, face.getModifiers());
        Check.due("NONE", -1, LazyMachine.NONE);

        Set<String> seen = new TreeSet<>();
        for (Method method : face.getDeclaredMethods()) {
            if (!Modifier.isPrivate(method.getModifiers()) && !method.isSynthetic()) {
                same("modifiers of " + method, Modifier.PUBLIC, method.getModifiers());
                seen.add(told(method));
            }
        }
        same("methods", new TreeSet<>(FACE), seen);

        for (Field field : face.getDeclaredFields()) {
            boolean shown = !Modifier.isPrivate(field.getModifiers());
            same("shown: " + field.getName(), field.getName().equals("NONE"), shown);
            if (Modifier.isStatic(field.getModifiers())) {
                same("final: " + field.getName(), true, Modifier.isFinal(field.getModifiers()));
            }
        }
        Constructor<?>[] constructors = face.getDeclaredConstructors();
        same("constructors", 1, constructors.length);
        same("constructor", "public LazyMachine()", constructors[0].toString());
        for (Class<?> inside : face.getDeclaredClasses()) {
            same("static: " + inside, true, Modifier.isStatic(inside.getModifiers()));
        }
        Check.end();
    }

    private static String told(Method method) {
        StringBuilder text = new StringBuilder();
        text.append(method.getReturnType()).append(' ').append(method.getName()).append('(');
        text.append(Arrays.toString(method.getParameterTypes()).replaceAll("[\\[\\]]", "")).append(')');
        for (Class<?> thrown : method.getExceptionTypes()) {
            text.append(' ').append(thrown.getSimpleName());
        }
        return text.toString();
    }

    private static void same(String what, Object want, Object got) {
        if (!want.equals(got)) {
            System.out.println(what + ": " + got + ", due is " + want);
        }
        Check.due(what, 1, want.equals(got) ? 1 : 0);
    }
}
