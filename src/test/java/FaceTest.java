import java.lang.reflect.Constructor;
import java.lang.reflect.Field;
import java.lang.reflect.Method;
import java.lang.reflect.Modifier;
import java.util.Set;
import java.util.TreeSet;

/** The class has the document's face, and nothing else of it can be seen from outside (LANGUAGE.md, rule 1). */
public final class FaceTest {
    private static final String BAD = "IllegalArgumentException";
    private static final String NOT_THERE = "NoSuchElementException";
    private static final String STATE = "IllegalStateException";
    private static final String UNSUPPORTED = "UnsupportedOperationException";

    private FaceTest() {
    }

    public static void main(String[] args) {
        int modifiers = GroupStore.class.getModifiers();
        Checks.same("true", String.valueOf(Modifier.isPublic(modifiers) && Modifier.isFinal(modifiers)));
        Checks.same(String.join("\n", face()), String.join("\n", seenMethods()));
        Checks.same("[]", seenFields().toString());
        Constructor<?>[] made = GroupStore.class.getDeclaredConstructors();
        Checks.same("1", String.valueOf(made.length));
        Checks.same("true", String.valueOf(Modifier.isPublic(made[0].getModifiers())));
        Checks.same("0", String.valueOf(made[0].getParameterCount()));
        Checks.same("[]", privateNamesakes().toString());
        Checks.finish();
    }

    private static Set<String> face() {
        Set<String> face = new TreeSet<>();
        face.add(line("void", "server", "int boolean", BAD));
        face.add(line("void", "lose", "int int", BAD));
        face.add(line("int", "begin", "int int int", BAD, UNSUPPORTED));
        face.add(line("int", "get", "int int", BAD, NOT_THERE));
        face.add(line("void", "put", "int int int", BAD, NOT_THERE, STATE));
        face.add(line("void", "send", "int int int", BAD, NOT_THERE, STATE));
        face.add(line("int", "commit", "int", BAD, NOT_THERE, STATE, UNSUPPORTED));
        face.add(line("void", "abort", "int", BAD, NOT_THERE));
        face.add(line("int", "catchUp", "int int", BAD, UNSUPPORTED));
        face.add(line("int", "read", "int int int int", BAD, NOT_THERE));
        face.add(line("int", "deliver", "", NOT_THERE, STATE, UNSUPPORTED));
        face.add(line("int", "log", "int int int int", BAD));
        face.add(line("int", "count", "int"));
        return face;
    }

    private static String line(String answer, String name, String arguments, String... thrown) {
        return "public " + answer + " " + name + "(" + arguments + ") " + new TreeSet<>(Set.of(thrown));
    }

    private static Set<String> seenMethods() {
        Set<String> seen = new TreeSet<>();
        for (Method method : GroupStore.class.getDeclaredMethods()) {
            if (!Modifier.isPrivate(method.getModifiers())) {
                seen.add(described(method));
            }
        }
        return seen;
    }

    private static String described(Method method) {
        StringBuilder arguments = new StringBuilder();
        for (Class<?> type : method.getParameterTypes()) {
            arguments.append(arguments.length() == 0 ? "" : " ").append(type.getSimpleName());
        }
        Set<String> thrown = new TreeSet<>();
        for (Class<?> type : method.getExceptionTypes()) {
            thrown.add(type.getSimpleName());
        }
        String seen = Modifier.toString(method.getModifiers());
        return seen + " " + method.getReturnType().getSimpleName() + " " + method.getName() + "(" + arguments + ") "
                + thrown;
    }

    private static Set<String> seenFields() {
        Set<String> seen = new TreeSet<>();
        for (Field field : GroupStore.class.getDeclaredFields()) {
            if (!Modifier.isPrivate(field.getModifiers())) {
                seen.add(field.getName());
            }
        }
        return seen;
    }

    private static Set<String> privateNamesakes() {
        Set<String> open = new TreeSet<>();
        for (Method method : GroupStore.class.getMethods()) {
            open.add(method.getName());
        }
        Set<String> namesakes = new TreeSet<>();
        for (Method method : GroupStore.class.getDeclaredMethods()) {
            if (Modifier.isPrivate(method.getModifiers()) && open.contains(method.getName())) {
                namesakes.add(method.getName());
            }
        }
        return namesakes;
    }
}
