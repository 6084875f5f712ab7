/** Counts the answers that are not as due, and ends the test with 1 if there was one. */
final class Due {
    private static final int MOST_TOLD = 40;

    private final String test;
    private int asked = 0;
    private int wrong = 0;

    Due(String test) {
        this.test = test;
    }

    void same(String call, long got, long due) {
        check(got == due, call + " answered " + got + ", due is " + due);
    }

    void same(String call, boolean got, boolean due) {
        check(got == due, call + " answered " + got + ", due is " + due);
    }

    void same(String call, double got, double due) {
        check(got == due, call + " answered " + got + ", due is " + due);
    }

    void same(String call, String got, String due) {
        check(got.equals(due), call + " answered " + got + ", due is " + due);
    }

    /** The exception's own class is asked for, not one above it. */
    void fails(String call, Class<? extends RuntimeException> due, Runnable what) {
        try {
            what.run();
        } catch (RuntimeException e) {
            check(e.getClass() == due, call + " threw " + e + ", due is " + due.getSimpleName());
            return;
        }
        check(false, call + " threw nothing, due is " + due.getSimpleName());
    }

    void check(boolean isRight, String told) {
        asked++;
        if (isRight) {
            return;
        }
        wrong++;
        if (wrong <= MOST_TOLD) {
            System.out.println(test + ": " + told);
        }
    }

    void end() {
        System.out.println(test + ": " + asked + " asked, " + wrong + " wrong");
        if (wrong != 0 || asked == 0) {
            System.exit(1);
        }
    }
}
