/** Counts the answers that are not as due, and ends the test with exit code 1 if there was one. */
final class Check {
    private final String test;
    private int asked = 0;
    private int wrong = 0;

    Check(String test) {
        this.test = test;
    }

    void same(String what, long got, long due) {
        holds(what + " answered " + got + ", due is " + due, got == due);
    }

    void same(String what, String got, String due) {
        holds(what + " answered " + got + ", due is " + due, got.equals(due));
    }

    void yes(String what, boolean got) {
        same(what, got ? 1 : 0, 1);
    }

    void no(String what, boolean got) {
        same(what, got ? 1 : 0, 0);
    }

    void noSuch(String what, Runnable call) {
        throwsJust(what, IndexOutOfBoundsException.class, call);
    }

    void badArgument(String what, Runnable call) {
        throwsJust(what, IllegalArgumentException.class, call);
    }

    void badState(String what, Runnable call) {
        throwsJust(what, IllegalStateException.class, call);
    }

    void holds(String complaint, boolean good) {
        asked++;
        if (!good) {
            wrong++;
            System.out.println(test + ": " + complaint);
        }
    }

    void end() {
        System.out.println(test + ": " + asked + " answers, " + wrong + " not as due");
        if (wrong != 0 || asked == 0) {
            System.exit(1);
        }
    }

    private void throwsJust(String what, Class<? extends RuntimeException> due, Runnable call) {
        String got = "nothing";
        try {
            call.run();
        } catch (RuntimeException e) {
            got = e.getClass().getName();
        }
        same(what + " throws", got, due.getName());
    }
}
