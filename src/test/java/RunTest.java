import java.util.NoSuchElementException;

/** Promises 35 to 41: inputs, runs and whether they agree. */
public final class RunTest {
    private static final Due DUE = new Due("RunTest");
    private static final Class<NoSuchElementException> NONE = NoSuchElementException.class;
    private static final Class<IllegalArgumentException> ARGUMENT = IllegalArgumentException.class;

    public static void main(String[] args) {
        inputs();
        instructions();
        flags();
        ends();
        fullRows();
        limits();
        tables();
        lastRun();
        agreeing();
        DUE.end();
    }

    private static String ran(Sourcewright x, int limit) {
        return Runs.told(DUE, x, limit);
    }

    private static Sourcewright fed(int[] bytes, int... inputs) {
        return Runs.fed(bytes, inputs);
    }

    private static int[] bytes(int... values) {
        return values;
    }

    private static void inputs() {
        DUE.about("promises 35 and 36 ");
        Sourcewright x = Make.of(160, 144, 128, 0);
        for (int i = 1; i <= 12; i++) {
            DUE.same("input", x.input(i == 1 ? Integer.MIN_VALUE : i), i);
        }
        DUE.fails("the 13th", IllegalStateException.class, () -> x.input(0));
        DUE.same("all are taken", ran(x, 99), "e 37 -2147483648 2 3 4 5 6 7 8 9 10 11 12");
        DUE.same("dry", x.dry(), 12);
        DUE.same("dry again", x.dry(), 0);
        DUE.same("none is left", ran(x, 99), "e 1");
        DUE.same("input after dry", x.input(7), 1);
        DUE.same("the new one", ran(x, 99), "e 4 7");
    }

    private static void instructions() {
        DUE.about("promise 37, instructions ");
        DUE.same("numbers", ran(Make.of(16, 127, 144, 17, 128, 145, 18, 255, 146, 147, 0), 99), "h 8 127 -128 -1 0");
        DUE.same("a copy", ran(fed(bytes(161, 33, 144, 0), 9), 99), "h 4 9");
        DUE.same("plus", ran(fed(bytes(160, 161, 49, 144, 145, 0), 9, 4), 99), "h 6 13 4");
        DUE.same("less", ran(fed(bytes(160, 161, 65, 144, 0), 9, 14), 99), "h 5 -5");
        DUE.same("times", ran(fed(bytes(160, 161, 81, 144, 0), -9, 4), 99), "h 5 -36");
        DUE.same("divided", ran(fed(bytes(160, 161, 97, 144, 0), -9, 4), 99), "h 5 -2");
        DUE.same("plus wraps", ran(fed(bytes(160, 161, 49, 144, 0), Integer.MAX_VALUE, 1), 99), "h 5 -2147483648");
        DUE.same("less wraps", ran(fed(bytes(160, 161, 65, 144, 0), Integer.MIN_VALUE, 1), 99), "h 5 2147483647");
        DUE.same("times wraps", ran(fed(bytes(160, 161, 81, 144, 0), 65536, 65537), 99), "h 5 65536");
        DUE.same("divided wraps", ran(fed(bytes(160, 161, 97, 144, 0), Integer.MIN_VALUE, -1), 99), "h 5 -2147483648");
        DUE.same("of d 3 and s 2", ran(fed(bytes(163, 162, 78, 147, 146, 0), 1, 10), 99), "h 6 -9 10");
        DUE.same("with itself", ran(fed(bytes(160, 48, 144, 0), 6), 99), "h 4 12");
        for (int cell = 0; cell < 8; cell++) {
            int other = (cell + 1) % 8;
            DUE.same("cell " + cell, ran(fed(bytes(160, 192, cell, 177, cell, 178, other, 145, 146, 0), 8), 99), "h 7 8 0");
        }
        DUE.same("a call and a return", ran(Make.of(133, 5, 144, 0, 208, 16, 3, 134), 99), "h 5 3");
        DUE.same("a jump", ran(Make.of(128, 3, 208, 144, 0), 99), "h 3 0");
    }

    private static void flags() {
        DUE.about("promise 37, jumps with a flag ");
        for (int i = 0; i < 4; i++) {
            for (int sign = -1; sign <= 1; sign++) {
                // 0: <a; 1: a~b; 2: jump to 6, 4: >a; 5: . 6: c=1; 8: >c; 9: .
                Sourcewright x = fed(bytes(160, 113, 129 + i, 6, 144, 0, 18, 1, 146, 0), sign * 5);
                boolean isTaken = i == 0 ? sign == 0 : i == 1 ? sign != 0 : i == 2 ? sign < 0 : sign >= 0;
                DUE.same("kind " + (i + 1) + " sign " + sign, ran(x, 99), isTaken ? "h 6 1" : "h 5 " + sign * 5);
            }
            DUE.same("the flag at first", ran(Make.of(129 + i, 3, 208, 0), 99).charAt(0), i == 0 || i == 3 ? 'h' : 'i');
        }
        DUE.same("least against most", ran(fed(bytes(160, 161, 113, 131, 6, 208, 0), Integer.MIN_VALUE, Integer.MAX_VALUE), 99), "h 5");
    }

    private static void ends() {
        DUE.about("promises 37 and 40, ends ");
        DUE.same("halt", ran(Make.of(0), 99), "h 1");
        DUE.same("a halt by its half alone", ran(Make.of(15), 99), "h 1");
        DUE.same("a return without a place", ran(Make.of(144, 134), 99), "h 2 0");
        DUE.same("dividing by 0", ran(Make.of(16, 5, 97, 144, 0), 99), "z 2");
        DUE.same("no input", ran(Make.of(160, 0), 99), "e 1");
        DUE.same("none", ran(Make.of(144, 208), 99), "i 1 0");
        DUE.same("cell 8", ran(Make.of(144, 176, 8), 99), "i 1 0");
        DUE.same("store 255", ran(Make.of(192, 255), 99), "i 0");
        DUE.same("an empty table", ran(Make.of(136, 0, 0), 99), "i 0");
        DUE.same("a table that is not wholly there", ran(Make.of(136, 2, 2), 99), "i 0");
        DUE.same("behind the bytes", ran(Make.of(144), 99), "b 1 0");
        DUE.same("a jump behind the bytes", ran(Make.of(128, 2), 99), "b 1");
        DUE.same("a call behind the bytes", ran(Make.of(133, 255), 99), "b 1");
        DUE.same("no bytes", ran(new Sourcewright(), 99), "b 0");
        DUE.same("not wholly there", ran(Make.of(144, 16), 99), "b 1 0");
        DUE.same("a table jump of two bytes", ran(Make.of(136, 0), 99), "b 0");
        DUE.same("a cell's number is missing", ran(Make.of(144, 176), 99), "b 1 0");
        Sourcewright cut = Make.of(16);
        DUE.same("the compiled jumps, the bytes do not begin", cut.run(true, 5), 'b');
        DUE.same("steps of the compiled", cut.steps(), 1);
        DUE.same("the bytes", cut.run(false, 5), 'b');
        DUE.same("steps of the bytes", cut.steps(), 0);
    }

    private static void fullRows() {
        DUE.about("promise 37, full rows ");
        DUE.same("the ninth call", ran(Make.of(133, 0), 99), "c 9");
        // 0: (9); eight deep, by 9: (12); 12: (15); .. each with a return
        int[] deep = new int[2 + 1 + 7 * 3 + 1];
        deep[0] = 133;
        deep[1] = 3;
        for (int i = 0; i < 7; i++) {
            deep[3 + 3 * i] = 133;
            deep[4 + 3 * i] = 6 + 3 * i;
            deep[5 + 3 * i] = 134;
        }
        deep[24] = 134;
        DUE.same("eight calls", ran(Make.of(deep), 99), "h 17");
        StringBuilder zeros = new StringBuilder();
        for (int i = 0; i < 40; i++) {
            zeros.append(" 0");
        }
        DUE.same("the 41st number", ran(Make.of(144, 128, 0), 2000), "o 81" + zeros);
        DUE.same("40 numbers", ran(Make.of(144, 128, 0), 80), "s 80" + zeros);
    }

    private static void limits() {
        DUE.about("promises 37 and 40, limits ");
        Sourcewright x = Make.of(144, 144, 0);
        DUE.same("0", ran(x, 0), "s 0");
        DUE.same("2", ran(x, 2), "s 2 0 0");
        DUE.same("3", ran(x, 3), "h 3 0 0");
        DUE.same("2000", ran(x, 2000), "h 3 0 0");
        DUE.same("a circle", ran(Make.of(128, 0), 2000), "s 2000");
        DUE.fails("-1", ARGUMENT, () -> x.run(false, -1));
        DUE.fails("2001", ARGUMENT, () -> x.run(false, 2001));
        DUE.fails("back -1", ARGUMENT, () -> x.run(true, -1));
        DUE.fails("back 2001", ARGUMENT, () -> x.run(true, 2001));
        DUE.same("the last run stays", x.steps(), 3);
        DUE.same("'b' is ahead of 's'", ran(Make.of(144), 1), "b 1 0");
        DUE.same("'i' is ahead of 's'", ran(Make.of(144, 208), 1), "i 1 0");
        DUE.same("'i' at once", ran(Make.of(208), 0), "i 0");
        DUE.same("'z' is not", ran(Make.of(97), 0), "s 0");
    }

    private static void tables() {
        DUE.about("promise 37, tables ");
        // 0: <c; 1: [c by 4, 2 of them: to 6, 8; 6: c=7 ... 10: >c; .
        int[] bytes = {162, 138, 4, 2, 6, 8, 18, 7, 18, 9, 146, 0};
        DUE.same("0", ran(fed(bytes, 0), 99), "h 6 9");
        DUE.same("1", ran(fed(bytes, 1), 99), "h 5 9");
        DUE.same("2", ran(fed(bytes, 2), 99), "t 2");
        DUE.same("-1", ran(fed(bytes, -1), 99), "t 2");
        DUE.same("least", ran(fed(bytes, Integer.MIN_VALUE), 99), "t 2");
        DUE.same("most", ran(fed(bytes, Integer.MAX_VALUE), 99), "t 2");
        bytes[5] = 12;
        DUE.same("behind the bytes", ran(fed(bytes, 1), 99), "b 2");
        bytes[5] = 11;
        DUE.same("to a halt", ran(fed(bytes, 1), 99), "h 3");
    }

    private static void lastRun() {
        DUE.about("promises 38 to 40 ");
        Sourcewright x = Make.of(16, 5, 144, 144, 0);
        DUE.same("outputs without a run", x.outputs(), 0);
        DUE.same("steps without a run", x.steps(), 0);
        DUE.fails("output(0) without a run", NONE, () -> x.output(0));
        DUE.same("run", x.run(false, 9), 'h');
        DUE.same("outputs", x.outputs(), 2);
        DUE.same("output(1)", x.output(1), 5);
        DUE.fails("output(2)", NONE, () -> x.output(2));
        DUE.fails("output(-1)", NONE, () -> x.output(-1));
        DUE.same("steps", x.steps(), 4);
        x.set(1, 6);
        DUE.same("a change does not run", x.output(0), 5);
        x.wipe();
        DUE.same("a wipe does not run", x.output(0), 5);
        DUE.same("run of nothing", x.run(false, 9), 'b');
        DUE.same("outputs of nothing", x.outputs(), 0);
        DUE.same("steps of nothing", x.steps(), 0);
        DUE.fails("output of nothing", NONE, () -> x.output(0));
    }

    private static void agreeing() {
        DUE.about("promise 41 ");
        Sourcewright x = Make.of(16, 1, 128, 4, 144, 0);
        DUE.same("run", x.run(false, 1), 's');
        for (int limit = 0; limit < 8; limit++) {
            DUE.same("agree(" + limit + ")", x.agree(limit), true);
        }
        DUE.same("agree is no run", x.steps(), 1);
        DUE.same("isSound", x.isSound(), true);
        DUE.same("isSound is no run", x.steps(), 1);
        DUE.same("agree(2000)", x.agree(2000), true);
        DUE.fails("agree(-1)", ARGUMENT, () -> x.agree(-1));
        DUE.fails("agree(2001)", ARGUMENT, () -> x.agree(2001));
    }
}
