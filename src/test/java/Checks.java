/** Counts what a test checks, and prints what is not as due. */
final class Checks {
    interface Call {
        Object answer();
    }

    private final String name;
    private int passed = 0;
    private int failed = 0;

    Checks(String name) {
        this.name = name;
    }

    void same(String what, Object due, Object got) {
        if (due.equals(got)) {
            passed++;
        } else {
            failed++;
            System.out.println(name + ": " + what + " answered " + got + ", due is " + due);
        }
    }

    /** A subclass of the exception is not as due: it would come from the machine. */
    void throwsIt(String what, Class<? extends RuntimeException> due, Call call) {
        same(what, "throws." + due.getSimpleName(), answerOf(call));
    }

    void answers(String what, long due, Call call) {
        same(what, String.valueOf(due), answerOf(call));
    }

    static String answerOf(Call call) {
        try {
            return String.valueOf(call.answer());
        } catch (RuntimeException e) {
            return "throws." + e.getClass().getSimpleName();
        }
    }

    void end() {
        System.out.println(name + ": " + passed + " checks as due, " + failed + " not");
        if (failed != 0 || passed == 0) {
            System.exit(1);
        }
    }
}
