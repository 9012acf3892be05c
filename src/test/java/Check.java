import java.util.Objects;

/** Counts the answers of one test program that are not the due ones. */
final class Check {
    static final String NO_SUCH = "throws.IndexOutOfBoundsException";
    static final String WRONG = "throws.IllegalArgumentException";
    static final String NOT_NOW = "throws.IllegalStateException";
    static final String NOTHING = "nothing";

    /** A call whose answer is looked at. */
    interface Call {
        Object run();
    }

    /** A call without an answer. */
    interface Act {
        void run();
    }

    private final String test;
    private String subject = "";
    private int right;
    private int wrong;

    Check(String test) {
        this.test = test;
    }

    /** What the answers looked at from here on are about; told with each wrong one. */
    void about(String nextSubject) {
        subject = nextSubject + ": ";
    }

    /** How many answers were looked at. */
    int count() {
        return right + wrong;
    }

    /**
     * The exact class is told, so that an exception of the machine, a subclass of the due one, shows.
     */
    static String answer(Call call) {
        try {
            return String.valueOf(call.run());
        } catch (RuntimeException e) {
            return "throws." + e.getClass().getSimpleName();
        }
    }

    static Call act(Act act) {
        return () -> {
            act.run();
            return NOTHING;
        };
    }

    void due(String what, Object want, Call call) {
        same(what, String.valueOf(want), answer(call));
    }

    void same(String what, Object want, Object got) {
        if (Objects.equals(want, got)) {
            right++;
            return;
        }
        wrong++;
        System.out.println(test + ": " + subject + what + " answered " + got + ", due is " + want);
    }

    /** Ends the program with exit code 1 if an answer was wrong, or if nothing was tested. */
    void end() {
        System.out.println(test + ": " + right + " right, " + wrong + " wrong");
        if (wrong > 0 || right == 0) {
            System.exit(1);
        }
    }
}
