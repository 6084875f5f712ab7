/** Counts the answers that are not as due, and ends the test with 1 if there was one. */
final class Due {
    private static final int MOST_TOLD = 40;

    private final String test;
    private String context = "";
    private String part = "";
    private int number = 0;
    private int asked = 0;
    private int wrong = 0;

    Due(String test) {
        this.test = test;
    }

    /** What the calls that follow are about, told with an answer that is not as due. */
    void about(String what) {
        context = what;
        part = "";
    }

    void at(String which, int index) {
        part = which;
        number = index;
    }

    void same(String call, long got, long due) {
        asked++;
        if (got != due) {
            tell(call + " answered " + got + ", due is " + due);
        }
    }

    void same(String call, boolean got, boolean due) {
        asked++;
        if (got != due) {
            tell(call + " answered " + got + ", due is " + due);
        }
    }

    void same(String call, double got, double due) {
        asked++;
        if (got != due) {
            tell(call + " answered " + got + ", due is " + due);
        }
    }

    void same(String call, String got, String due) {
        asked++;
        if (!got.equals(due)) {
            tell(call + " answered " + got + ", due is " + due);
        }
    }

    /** The exception's own class is asked for, not one above or below it. */
    void fails(String call, Class<? extends RuntimeException> due, Runnable what) {
        asked++;
        try {
            what.run();
        } catch (RuntimeException e) {
            if (e.getClass() != due) {
                tell(call + " threw " + e + ", due is " + due.getSimpleName());
            }
            return;
        }
        tell(call + " threw nothing, due is " + due.getSimpleName());
    }

    void check(boolean isRight, String told) {
        asked++;
        if (!isRight) {
            tell(told);
        }
    }

    void end() {
        System.out.println(test + ": " + asked + " asked, " + wrong + " wrong");
        if (wrong != 0 || asked == 0) {
            System.exit(1);
        }
    }

    private void tell(String told) {
        wrong++;
        if (wrong <= MOST_TOLD) {
            System.out.println(test + ": " + context + (part.isEmpty() ? "" : part + " " + number + ": ") + told);
        }
    }
}
