/** Makes objects with bytes and inputs, and tells of their runs, of the bytes and of what they are compiled to. */
final class Runs {
    private Runs() {
    }

    static int[] bytes(int... values) {
        return values;
    }

    static Sourcewright fed(int[] bytes, int... inputs) {
        Sourcewright made = Make.of(bytes);
        for (int value : inputs) {
            made.input(value);
        }
        return made;
    }

    /** Runs both ways, and tells the end, the steps and what came out of the bytes; the ways must not differ. */
    static String told(Due due, Sourcewright x, int limit) {
        char back = x.run(true, limit);
        String backTold = Make.outputs(x);
        char end = x.run(false, limit);
        String told = Make.outputs(x);
        if (end != 's' && back != 's') {
            due.same("the end of the compiled", back, end);
            due.same("the numbers of the compiled", backTold, told);
        }
        due.same("agree", x.agree(limit), true);
        return end + " " + x.steps() + (told.isEmpty() ? "" : " " + told);
    }

    /** The end alone, without a look at what the bytes are compiled to. */
    static String plain(Sourcewright x, int limit) {
        char end = x.run(false, limit);
        String told = Make.outputs(x);
        return end + " " + x.steps() + (told.isEmpty() ? "" : " " + told);
    }
}
