/** What the tests share: an answer is held against what is due, and both kinds are counted. */
abstract class Checks {
    static final int NONE = -1;
    static final String INDEX = "IndexOutOfBoundsException";
    static final String ARGUMENT = "IllegalArgumentException";
    static final String STATE = "IllegalStateException";
    static int promise;
    private static int passed;
    private static int wrong;

    interface Question {
        Object ask();
    }

    /** What is answered, or the name of what is thrown. */
    static Object answer(Question q) {
        try {
            return q.ask();
        } catch (RuntimeException e) {
            return e.getClass().getSimpleName();
        }
    }

    static void due(Object want, Question q) {
        dueOf("", want, q);
    }

    static void dueOf(String which, Object want, Question q) {
        Object got = answer(q);
        if (want.equals(got)) {
            passed++;
        } else {
            wrong++;
            System.out.println("promise " + promise + ", " + place() + ": " + which + " answered " + got + ", due is "
                    + want);
        }
    }

    /** The line of the test that asked. */
    private static String place() {
        for (StackTraceElement at : new Throwable().getStackTrace()) {
            if (!at.getClassName().startsWith("Checks")) return at.getFileName() + " line " + at.getLineNumber();
        }
        return "";
    }

    /** What is refused changes nothing. */
    static void refused(String want, Rollover x, Question q) {
        long before = x.digest();
        due(want, q);
        due(before, () -> x.digest());
    }

    static void end() {
        System.out.println(passed + " passed, " + wrong + " failed");
        if (wrong != 0) System.exit(1);
    }
}
