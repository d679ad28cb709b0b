import java.util.NoSuchElementException;
import java.util.Set;
import java.util.function.IntSupplier;

/** Counts the calls whose answer is not the one that is due, and tells where they stand. */
final class Checks {
    static final Class<? extends RuntimeException> BAD = IllegalArgumentException.class;
    static final Class<? extends RuntimeException> NOT_THERE = NoSuchElementException.class;
    static final Class<? extends RuntimeException> FULL = IllegalStateException.class;
    static final Class<? extends RuntimeException> CONFLICT = IllegalStateException.class;
    static final Class<? extends RuntimeException> NO_MAJORITY = UnsupportedOperationException.class;

    // What is not as due is told with the line of the test that asked for it.
    private static final Set<String> HELPERS = Set.of("Checks", "Steps", "Look", "Run");

    private static int made = 0;
    private static int wrong = 0;
    private static int sentences = 0;
    private static String words = "";

    private Checks() {
    }

    /** One sentence of the document, with the answers that it asks for. */
    static void sentence(String said, Runnable test) {
        sentences++;
        words = " \"" + said + "\"";
        int before = made;
        same("nothing", outcome(() -> {
            test.run();
            return "nothing";
        }));
        same("true", String.valueOf(made > before + 1));
        words = "";
    }

    static void answers(int want, IntSupplier call) {
        String due = String.valueOf(want);
        same(due, outcome(() -> String.valueOf(call.getAsInt())));
    }

    static void goes(Runnable call) {
        same("nothing", outcome(() -> {
            call.run();
            return "nothing";
        }));
    }

    static void refuses(Class<? extends RuntimeException> kind, Runnable call) {
        same(kind.getName(), outcome(() -> {
            call.run();
            return "nothing";
        }));
    }

    static void same(String want, String got) {
        made++;
        if (!want.equals(got)) {
            wrong++;
            System.out.println(place() + words + ": answered " + got + ", due is " + want);
        }
    }

    static String outcome(java.util.function.Supplier<String> call) {
        try {
            return call.get();
        } catch (RuntimeException e) {
            return e.getClass().getName();
        }
    }

    static void finish() {
        String told = sentences == 0 ? "" : sentences + " sentences: ";
        System.out.println(told + (made - wrong) + " answers as due, " + wrong + " not");
        if (wrong != 0 || made == 0) {
            System.exit(1);
        }
    }

    private static String place() {
        for (StackTraceElement frame : new Throwable().getStackTrace()) {
            if (!HELPERS.contains(frame.getClassName())) {
                return frame.getFileName() + ":" + frame.getLineNumber() + " " + frame.getMethodName();
            }
        }
        return "?";
    }
}
