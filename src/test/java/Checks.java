/** Counts what a test checks, and prints what is not as due. */
final class Checks {
    interface Call {
        Object answer();
    }

    private final String name;
    private String sentence = "";
    private int passed = 0;
    private int failed = 0;

    Checks(String name) {
        this.name = name;
    }

    void same(String what, Object due, Object got) {
        if (due.equals(got)) {
            passed++;
        } else {
            fails(what + " answered " + got + ", due is " + due);
        }
    }

    /** A subclass of the exception is not as due: it would come from the machine. */
    void throwsIt(String what, Class<? extends RuntimeException> due, Call call) {
        same(what, "throws." + due.getSimpleName(), answerOf(call));
    }

    void answers(String what, long due, Call call) {
        same(what, String.valueOf(due), answerOf(call));
    }

    static String answerOf(Call call) {
        try {
            return String.valueOf(call.answer());
        } catch (RuntimeException e) {
            return "throws." + e.getClass().getSimpleName();
        }
    }

    /** Tests one sentence of the document; it fails too if it checks nothing, and stops no other sentence's test. */
    void sentence(String words, Runnable test) {
        sentence = "\"" + words + "\" ";
        int before = passed + failed;
        try {
            test.run();
        } catch (RuntimeException e) {
            fails("ended with " + e);
        }
        if (passed + failed == before) {
            fails("checks nothing");
        }
        sentence = "";
    }

    private void fails(String what) {
        failed++;
        System.out.println(name + ": " + sentence + what);
    }

    void end() {
        System.out.println(name + ": " + passed + " checks as due, " + failed + " not");
        if (failed != 0 || passed == 0) {
            System.exit(1);
        }
    }
}
