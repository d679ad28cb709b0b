import java.io.File;
import java.io.IOException;
import java.lang.reflect.InvocationTargetException;
import java.lang.reflect.Method;
import java.nio.file.Files;
import java.nio.file.Path;
import java.util.ArrayList;
import java.util.Arrays;
import java.util.List;
import java.util.Set;
import java.util.TreeSet;
import java.util.regex.Matcher;
import java.util.regex.Pattern;

/** What README.md shows of calls, answers, exceptions and tests is so. */
public final class ReadmeTest {
    private static final String NEW_STORE = "GroupStore store = new GroupStore();";
    private static final String BAD = "throws IllegalArgumentException";
    private static final Pattern CALL = Pattern.compile("store\\.(\\w+)\\(([^)]*)\\);\\s+// (.+)");
    private static final Pattern DUE = Pattern.compile("(answers|throws) (-?\\w+).*");
    private static final Pattern SECTION = Pattern.compile("### `(?:(\\w+) )?(\\w+)\\(([^)]*)\\)`");
    private static final Pattern NAMED_TEST = Pattern.compile("`(\\w+Test)`");
    private static final Pattern RANGE = Pattern.compile("(\\w+) (?:is )?not (\\d+) \\.\\. (\\d+)");
    private static final Pattern THROWN = Pattern.compile("- `(\\w+Exception)`: .+");

    private ReadmeTest() {
    }

    public static void main(String[] args) throws IOException {
        List<String> lines = Files.readAllLines(Path.of("README.md"));
        Checks.same(faceNames().toString(), runBlocks(lines).toString());
        Checks.same(String.join("\n", declared()), String.join("\n", described(lines)));
        rangesAreSo(lines);
        Checks.same(testFiles().toString(), namedTests(lines).toString());
        Checks.finish();
    }

    /** Runs every block of calls; the names of the calls that they show. */
    private static Set<String> runBlocks(List<String> lines) {
        Set<String> shown = new TreeSet<>();
        GroupStore store = null;
        boolean inBlock = false;
        for (String line : lines) {
            if (line.startsWith("```")) {
                inBlock = line.equals("```java");
                store = null;
            } else if (inBlock && line.equals(NEW_STORE)) {
                store = new GroupStore();
            } else if (inBlock) {
                shown.add(runLine(store, line));
            }
        }
        return shown;
    }

    private static String runLine(GroupStore store, String line) {
        Matcher call = CALL.matcher(line);
        if (!call.matches() || store == null) {
            Checks.same("a call on a store, with a comment", line);
            return "";
        }
        Method method = methodNamed(call.group(1));
        Object[] written = arguments(call.group(2));
        Checks.same(line + " -> " + due(method, call.group(3)), line + " -> " + outcome(store, method, written));
        return call.group(1);
    }

    /** A call that answers something is shown with its answer, so that none is left untold. */
    private static String due(Method method, String comment) {
        Matcher told = DUE.matcher(comment);
        if (told.matches()) {
            return told.group(1) + " " + told.group(2);
        }
        return method.getReturnType() == void.class ? "answers nothing" : "a comment that tells its answer";
    }

    private static String outcome(GroupStore store, Method method, Object[] arguments) {
        try {
            Object answer = method.invoke(store, arguments);
            return "answers " + (answer == null ? "nothing" : answer);
        } catch (InvocationTargetException e) {
            return "throws " + e.getCause().getClass().getSimpleName();
        } catch (IllegalAccessException | IllegalArgumentException e) {
            return "can't be called: " + e;
        }
    }

    private static Object[] arguments(String written) {
        List<Object> arguments = new ArrayList<>();
        for (String argument : written.isEmpty() ? new String[0] : written.split(", ")) {
            boolean isTruth = argument.equals("true") || argument.equals("false");
            arguments.add(isTruth ? (Object) Boolean.valueOf(argument) : Integer.valueOf(argument));
        }
        return arguments.toArray();
    }

    private static Method methodNamed(String name) {
        for (Method method : face()) {
            if (method.getName().equals(name)) {
                return method;
            }
        }
        throw new IllegalStateException("README.md shows a call that is not there: " + name);
    }

    private static List<Method> face() {
        List<Method> face = new ArrayList<>();
        for (Method method : GroupStore.class.getMethods()) {
            if (method.getDeclaringClass() == GroupStore.class) {
                face.add(method);
            }
        }
        return face;
    }

    private static Set<String> faceNames() {
        Set<String> names = new TreeSet<>();
        for (Method method : face()) {
            names.add(method.getName());
        }
        return names;
    }

    private static Set<String> declared() {
        Set<String> declared = new TreeSet<>();
        declared.add("GroupStore() []");
        for (Method method : face()) {
            List<String> types = new ArrayList<>();
            for (Class<?> type : method.getParameterTypes()) {
                types.add(type.getSimpleName());
            }
            Set<String> thrown = new TreeSet<>();
            for (Class<?> type : method.getExceptionTypes()) {
                thrown.add(type.getSimpleName());
            }
            String arguments = "(" + String.join(" ", types) + ")";
            declared.add(method.getReturnType() + " " + method.getName() + arguments + " " + thrown);
        }
        return declared;
    }

    /** The section of each call with the exceptions that it lists. */
    private static Set<String> described(List<String> lines) {
        Set<String> described = new TreeSet<>();
        String head = "";
        Set<String> thrown = new TreeSet<>();
        for (String line : lines) {
            Matcher exception = THROWN.matcher(line);
            if (line.startsWith("#")) {
                addSection(described, head, thrown);
                head = head(line);
                thrown.clear();
            } else if (exception.matches()) {
                thrown.add(exception.group(1));
            }
        }
        addSection(described, head, thrown);
        return described;
    }

    private static void addSection(Set<String> described, String head, Set<String> thrown) {
        if (!head.isEmpty()) {
            described.add(head + " " + thrown);
        }
    }

    private static String head(String line) {
        Matcher section = SECTION.matcher(line);
        if (!section.matches()) {
            return "";
        }
        String answer = section.group(1) == null ? "" : section.group(1) + " ";
        String types = section.group(3).replaceAll("(\\w+) \\w+(, )?", "$1 ").trim();
        return answer + section.group(2) + "(" + types + ")";
    }

    /** The numbers that a section tells as its call's ranges, and no others, are Bad outside them. */
    private static void rangesAreSo(List<String> lines) {
        Matcher section = null;
        for (String line : lines) {
            Matcher head = SECTION.matcher(line);
            if (head.matches()) {
                section = head;
            } else if (section != null && line.startsWith("- `IllegalArgumentException`: ")) {
                rangesAreSo(methodNamed(section.group(2)), section.group(3).split(", "), line);
            }
        }
    }

    private static void rangesAreSo(Method method, String[] parameters, String told) {
        Object[] arguments = new Object[parameters.length];
        int[][] ranges = new int[parameters.length][];
        for (int i = 0; i < parameters.length; i++) {
            ranges[i] = rangeOf(parameters[i].replaceAll("\\w+ ", ""), told);
            arguments[i] = method.getParameterTypes()[i] == boolean.class ? (Object) true : (Object) ranges[i][0];
        }
        for (int i = 0; i < parameters.length; i++) {
            if (arguments[i] instanceof Integer) {
                rangeIsSo(method, arguments, i, ranges[i]);
            }
        }
    }

    /** Without a range any number goes. */
    private static int[] rangeOf(String parameter, String told) {
        Matcher range = RANGE.matcher(told);
        while (range.find()) {
            if (range.group(1).equals(parameter)) {
                return new int[] {Integer.parseInt(range.group(2)), Integer.parseInt(range.group(3))};
            }
        }
        return new int[] {Integer.MIN_VALUE, Integer.MAX_VALUE};
    }

    private static void rangeIsSo(Method method, Object[] arguments, int which, int[] range) {
        for (long number : new long[] {range[0] - 1L, range[0], range[1], range[1] + 1L}) {
            if (number == (int) number) {
                Object[] changed = arguments.clone();
                changed[which] = (int) number;
                boolean bad = number < range[0] || number > range[1];
                String call = method.getName() + Arrays.toString(changed) + " is Bad: ";
                Checks.same(call + bad, call + outcome(new GroupStore(), method, changed).equals(BAD));
            }
        }
    }

    private static Set<String> testFiles() {
        Set<String> names = new TreeSet<>();
        for (File file : new File("src/test/java").listFiles()) {
            if (file.getName().endsWith("Test.java")) {
                names.add(file.getName().replace(".java", ""));
            }
        }
        return names;
    }

    private static Set<String> namedTests(List<String> lines) {
        Set<String> names = new TreeSet<>();
        Matcher named = NAMED_TEST.matcher(String.join("\n", lines));
        while (named.find()) {
            names.add(named.group(1));
        }
        return names;
    }
}
