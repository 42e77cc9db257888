/** Counts what is asked in one test and prints every answer that is not the one that is due. */
final class Check {
    /** A call whose answer, or whose exception, is looked at. */
    interface Call {
        long answer();
    }

    private final String name;
    private String about = "";
    private int asked;
    private int wrong;

    Check(String name) {
        this.name = name;
    }

    /** Names what the next answers are about, for the print of a wrong one. */
    void about(String text) {
        about = text.isEmpty() ? "" : "[" + text + "] ";
    }

    int asked() {
        return asked;
    }

    void due(String call, long got, long want) {
        asked++;
        if (got != want) {
            fail(call + " answered " + got + ", due is " + want);
        }
    }

    void due(String call, boolean got, boolean want) {
        due(call, got ? 1 : 0, want ? 1 : 0);
    }

    void index(String call, Call done) {
        throwing(call, IndexOutOfBoundsException.class, done);
    }

    void argument(String call, Call done) {
        throwing(call, IllegalArgumentException.class, done);
    }

    void state(String call, Call done) {
        throwing(call, IllegalStateException.class, done);
    }

    void throwing(String call, Class<?> want, Call done) {
        asked++;
        long got;
        try {
            got = done.answer();
        } catch (RuntimeException e) {
            // The exact class is compared: what the machine throws would be a subclass.
            if (e.getClass() != want) {
                fail(call + " threw " + e + ", due is " + want.getSimpleName());
            }
            return;
        }
        fail(call + " answered " + got + ", due is " + want.getSimpleName());
    }

    void fail(String text) {
        wrong++;
        if (wrong <= 40) {
            System.out.println(name + ": " + about + text);
        }
    }

    void end() {
        System.out.println(name + ": " + asked + " asked, " + wrong + " wrong");
        if (wrong != 0 || asked == 0) {
            System.exit(1);
        }
    }
}
