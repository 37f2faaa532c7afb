/** Compares answers with those that are due, and counts. An exception counts as the answer "throws.ItsName". */
final class Check {
    interface Call {
        Object answer();
    }

    static final String STATE = "throws.IllegalStateException";
    static final String ARGUMENT = "throws.IllegalArgumentException";
    static final String INDEX = "throws.IndexOutOfBoundsException";

    private String title = "";
    private int passed;
    private int failed;

    int passed() {
        return passed;
    }

    int failed() {
        return failed;
    }

    void title(String text) {
        title = text;
    }

    void due(Object want, Call call) {
        Object got = answerOf(call);
        if (got.equals(want)) {
            passed++;
        } else {
            failed++;
            System.out.println(title + ", " + place() + ": answered " + got + ", due is " + want);
        }
    }

    static Object answerOf(Call call) {
        try {
            return call.answer();
        } catch (RuntimeException thrown) {
            return "throws." + thrown.getClass().getSimpleName();
        }
    }

    private static String place() {
        for (StackTraceElement frame : new Throwable().getStackTrace()) {
            String name = frame.getClassName();
            if (!name.startsWith("Check") && !name.startsWith("Edges")) {
                return frame.getFileName() + ":" + frame.getLineNumber();
            }
        }
        return "?";
    }
}
