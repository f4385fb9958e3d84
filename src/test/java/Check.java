/** Counts the answers that are not as due, and ends the test with exit code 1 if there was one. */
final class Check {
    private final String test;
    private String about = "";
    private int asked = 0;
    private int wrong = 0;

    Check(String test) {
        this.test = test;
    }

    /** What the next answers are about; a complaint names it. */
    void about(String words) {
        about = ", " + words;
    }

    int asked() {
        return asked;
    }

    void same(String what, long got, long due) {
        holds(what + " answered " + got + ", due is " + due, got == due);
    }

    void same(String what, String got, String due) {
        holds(what + " answered " + got + ", due is " + due, got.equals(due));
    }

    void yes(String what, boolean got) {
        same(what, got ? 1 : 0, 1);
    }

    void no(String what, boolean got) {
        same(what, got ? 1 : 0, 0);
    }

    void noSuch(String what, Runnable call) {
        throwsJust(what, IndexOutOfBoundsException.class.getName(), call);
    }

    void badArgument(String what, Runnable call) {
        throwsJust(what, IllegalArgumentException.class.getName(), call);
    }

    void badState(String what, Runnable call) {
        throwsJust(what, IllegalStateException.class.getName(), call);
    }

    void fine(String what, Runnable call) {
        throwsJust(what, NOTHING, call);
    }

    void holds(String complaint, boolean good) {
        asked++;
        if (!good) {
            wrong++;
            System.out.println(test + about + ": " + complaint);
        }
    }

    void end() {
        System.out.println(test + ": " + asked + " answers, " + wrong + " not as due");
        if (wrong != 0 || asked == 0) {
            System.exit(1);
        }
    }

    private static final String NOTHING = "nothing";

    private void throwsJust(String what, String due, Runnable call) {
        String got = NOTHING;
        try {
            call.run();
        } catch (RuntimeException e) {
            got = e.getClass().getName();
        }
        same(what + " throws", got, due);
    }
}
