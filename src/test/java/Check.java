import java.util.Objects;

/** Counts and prints what is not as due; a test's main ends with report(). */
final class Check {
    interface Call {
        Object answer();
    }

    private static int checks = 0;
    private static int wrong = 0;

    private Check() {
    }

    static void due(String what, Object want, Object got) {
        checks++;
        if (!Objects.equals(want, got)) {
            wrong++;
            System.out.println(what + ": got " + got + ", due is " + want);
        }
    }

    /** The answer of a call as a text, or throws.X for the very class that it throws. */
    static String answerOf(Call call) {
        try {
            return String.valueOf(call.answer());
        } catch (RuntimeException thrown) {
            return "throws." + thrown.getClass().getSimpleName();
        }
    }

    static void index(String what, Call call) {
        due(what, "throws.IndexOutOfBoundsException", answerOf(call));
    }

    static void argument(String what, Call call) {
        due(what, "throws.IllegalArgumentException", answerOf(call));
    }

    static void state(String what, Call call) {
        due(what, "throws.IllegalStateException", answerOf(call));
    }

    static void report(String name) {
        System.out.println(name + ": " + checks + " checks, " + wrong + " wrong");
        if (wrong != 0) {
            System.exit(1);
        }
    }
}
