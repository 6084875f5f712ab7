/** "Terms", the machine: each sentence that names an edge, in the document's order, by runs. */
public final class MachineEdgesTest {
    private static final Due DUE = new Due("MachineEdgesTest");
    private static final int LEAST = Integer.MIN_VALUE;
    private static final int MOST = Integer.MAX_VALUE;
    private static final int[][] PAIRS = {{MOST, 1}, {MOST, -1}, {LEAST, 1}, {LEAST, -1}, {LEAST, LEAST}, {MOST, MOST},
        {LEAST, MOST}, {MOST, LEAST}, {65536, 65536}, {46341, 46341}, {-7, 2}, {7, -2}, {-7, -2}, {0, 5}, {1, MOST}, {5, 5},
        {0, 0}, {-1, 0}, {1, 0}, {LEAST, 0}, {0, LEAST}};

    public static void main(String[] args) {
        zeroAtFirst();
        eachRunBeginsAnew();
        keptPlaces();
        mostBytes();
        beginning();
        firstBytes();
        numbers();
        unnamedRegisters();
        arithmetic();
        comparisons();
        calls();
        tableIndexes();
        tableBounds();
        outputs();
        inputs();
        cells();
        noInstructions();
        notThere();
        mostSteps();
        DUE.end();
    }

    private static void says(String sentence) {
        DUE.about("\"" + sentence + "\" ");
    }

    private static String ran(Sourcewright x, int limit) {
        return Runs.told(DUE, x, limit);
    }

    private static String ran(int limit, int... bytes) {
        return Runs.told(DUE, Make.of(bytes), limit);
    }

    private static String times(String text, int many) {
        return text.repeat(many);
    }

    private static int[] row(int many, int value) {
        int[] made = new int[many];
        java.util.Arrays.fill(made, value);
        return made;
    }

    private static void zeroAtFirst() {
        says("registers 0 to 3, cells 0 to 7, all ints, 0 at first, a flag, 0 at first");
        DUE.same("registers", ran(9, 144, 145, 146, 147, 0), "h 5 0 0 0 0");
        int[] bytes = new int[25];
        for (int cell = 0; cell < 8; cell++) {
            bytes[3 * cell] = 176;
            bytes[3 * cell + 1] = cell;
            bytes[3 * cell + 2] = 144;
        }
        DUE.same("cells", ran(99, bytes), "h 17" + times(" 0", 8));
        DUE.same("flag is 0", ran(9, 129, 3, 208, 0), "h 2");
        DUE.same("flag is not 0", ran(9, 130, 3, 208, 0), "i 1");
        DUE.same("flag below 0", ran(9, 131, 3, 208, 0), "i 1");
        DUE.same("flag not below 0", ran(9, 132, 3, 208, 0), "h 2");
    }

    private static void eachRunBeginsAnew() {
        says("0 at first");
        Sourcewright rows = Make.of(144, 177, 3, 145, 16, 7, 192, 3, 0);
        for (int cell = 0; cell < 8; cell++) {
            Sourcewright x = Make.of(176, cell, 144, 17, 9, 193, cell, 0);
            DUE.same("cell " + cell, ran(x, 9), "h 5 0");
            DUE.same("cell " + cell + " again", ran(x, 9), "h 5 0");
        }
        for (int s = 0; s < 4; s++) {
            Sourcewright x = Make.of(144 + s, 16 + s, 9, 0);
            DUE.same("register " + s, ran(x, 9), "h 3 0");
            DUE.same("register " + s + " again", ran(x, 9), "h 3 0");
        }
        Sourcewright flag = Make.of(129, 5, 147, 147, 0, 146, 16, 1, 113, 0);
        Sourcewright kept = Make.of(133, 0);
        Sourcewright fed = Runs.fed(Runs.bytes(160, 144, 0), 5);
        Sourcewright outs = Make.of(144, 128, 0);
        for (int i = 0; i < 3; i++) {
            DUE.same("registers and cells", ran(rows, 9), "h 6 0 0");
            DUE.same("the flag", ran(flag, 9), "h 5 0");
            DUE.same("places to return to", ran(kept, 99), "c 9");
            DUE.same("inputs", ran(fed, 9), "h 3 5");
            DUE.same("numbers that came out", ran(outs, 99), "o 81" + times(" 0", 40));
        }
    }

    /** The first place calls, each that is called calls the next one but the last, and each returns. */
    private static int[] chain(int calls) {
        int[] made = new int[3 * calls + 1];
        for (int i = 0; i < calls; i++) {
            made[3 * i] = 133;
            made[3 * i + 1] = 3 * i + 3;
            made[3 * i + 2] = i == 0 ? 0 : 134;
        }
        made[3 * calls] = 134;
        return made;
    }

    private static void keptPlaces() {
        says("a row of places to return to, at most 8; with 8 kept the end 'c'");
        DUE.same("7 calls", ran(99, chain(7)), "h 15");
        DUE.same("8 calls", ran(99, chain(8)), "h 17");
        DUE.same("9 calls", ran(99, chain(9)), "c 9");
        DUE.same("what is returned to is kept no more", ran(2000, 133, 5, 128, 0, 0, 134), "s 2000");
        int[] eight = new int[18];
        int[] seven = new int[16];
        for (int i = 0; i < 18; i++) {
            eight[i] = i % 2 == 0 ? 133 : i == 17 ? 255 : i + 1;
        }
        for (int i = 0; i < 16; i++) {
            seven[i] = i % 2 == 0 ? 133 : i == 15 ? 255 : i + 1;
        }
        DUE.same("the ninth, behind the bytes", ran(99, eight), "c 9");
        DUE.same("the eighth, behind the bytes", ran(99, seven), "b 8");
    }

    private static void mostBytes() {
        says("bytes, 0 to 255 each, numbered from 0, at most 120");
        int[] bytes = row(120, 32);
        DUE.same("120 and no halt", ran(2000, bytes), "b 120");
        bytes[119] = 0;
        DUE.same("120 with a halt", ran(2000, bytes), "h 120");
        bytes[0] = 128;
        bytes[1] = 119;
        DUE.same("a jump to the last", ran(9, bytes), "h 2");
        bytes[1] = 120;
        DUE.same("a jump to the next one", ran(9, bytes), "b 1");
        bytes[1] = 255;
        DUE.same("a jump to 255", ran(9, bytes), "b 1");
        bytes[1] = 118;
        bytes[118] = 128;
        bytes[119] = 118;
        DUE.same("two bytes at the end", ran(9, bytes), "s 9");
    }

    private static void beginning() {
        says("It begins with the byte 0");
        DUE.same("no bytes", ran(9), "b 0");
        Sourcewright x = Make.of(0, 144, 0);
        x.entry(1);
        DUE.same("not with an entry that is told", ran(x, 9), "h 1");
        Sourcewright y = Make.of(136, 144);
        y.entry(1);
        DUE.same("nor if nothing is wholly there", ran(y, 9), "b 0");
        DUE.same("the only byte", ran(9, 208), "i 0");
    }

    /** What stands behind is 7 1 0 0 0 0 0 0: a halt at 1 and at 2 and at 7, which is a table of one place, 0. */
    private static String sourceOf(int value) {
        char d = "abcd".charAt(value / 4 % 4);
        char s = "abcd".charAt(value % 4);
        int x = value % 16;
        switch (value / 16) {
            case 0:
                return ".";
            case 1:
                return s + "=7;.";
            case 2:
                return d + "=" + s + ";.";
            case 3, 4, 5, 6, 7:
                return d + "" + "+-*/~".charAt(value / 16 - 3) + s + ";.";
            case 8:
                return x == 0 ? "." : x < 5 ? "=#<]".charAt(x - 1) + "(.:.)" : x == 5 ? "(7);" : x == 6 ? ","
                    : x >= 8 && x <= 11 ? "L{[" + s + "(^0;)}" : "%";
            case 9:
                return ">" + s + ";.";
            case 10:
                return "<" + s + ";.";
            case 11:
                return s + "=x7;.";
            case 12:
                return "x7=" + s + ";.";
            default:
                return "%";
        }
    }

    private static void firstBytes() {
        says("h is a 16th, cut, x the rest, d is x divided by 4, cut, s the rest of that");
        for (int value = 0; value < 256; value++) {
            Sourcewright x = Make.of(value, 7, 1, 0, 0, 0, 0, 0, 0);
            DUE.same("the first byte " + value, Make.source(x, 0), sourceOf(value));
            boolean isNone = sourceOf(value).equals("%");
            DUE.same("its length is 0 for " + value, x.length(0) == 0, isNone);
            DUE.same("its end is 'i' for " + value, x.run(false, 0) == 'i', isNone);
        }
    }

    private static void numbers() {
        says("the register s becomes n, less 256 if n is above 127");
        for (int n = 0; n < 256; n++) {
            DUE.same("number " + n, ran(9, 16, n, 144, 0), "h 3 " + (n > 127 ? n - 256 : n));
        }
    }

    private static void unnamedRegisters() {
        says("where d is not named, it is of no meaning");
        for (int d = 0; d < 4; d++) {
            DUE.same("a number", ran(9, 17 + 4 * d, 200, 145, 0), "h 3 -56");
            DUE.same("an output", ran(9, 17, 9, 145 + 4 * d, 0), "h 3 9");
            DUE.same("an input", ran(Runs.fed(Runs.bytes(162 + 4 * d, 146, 0), 4), 9), "h 3 4");
            DUE.same("cells", ran(9, 18, 5, 194 + 4 * d, 7, 179 + 4 * d, 7, 147, 0), "h 5 5");
        }
        for (int x = 0; x < 16; x++) {
            DUE.same("a halt", ran(9, x), "h 1");
        }
    }

    private static void arithmetic() {
        says("d becomes d plus, less, times, divided by s, as ints; dividing by 0 is the end 'z'");
        for (int[] pair : PAIRS) {
            int[] made = {pair[0] + pair[1], pair[0] - pair[1], pair[0] * pair[1], pair[1] == 0 ? 0 : pair[0] / pair[1]};
            for (int i = 0; i < 4; i++) {
                Sourcewright x = Runs.fed(Runs.bytes(160, 161, 49 + 16 * i, 144, 0), pair);
                boolean isEnd = i == 3 && pair[1] == 0;
                DUE.same(pair[0] + " " + "+-*/".charAt(i) + " " + pair[1], ran(x, 9), isEnd ? "z 3" : "h 5 " + made[i]);
            }
        }
        DUE.same("0 by itself", ran(9, 96), "z 1");
        DUE.same("s stays what it is", ran(9, 16, 9, 17, 2, 97, 145, 144, 0), "h 6 2 4");
    }

    private static void comparisons() {
        says("the flag becomes -1, 0 or 1, as d is less than s, the same, or greater");
        for (int[] pair : PAIRS) {
            boolean[] isTaken = {true, pair[0] == pair[1], pair[0] != pair[1], pair[0] < pair[1], pair[0] >= pair[1]};
            for (int i = 0; i < 5; i++) {
                Sourcewright x = Runs.fed(Runs.bytes(160, 161, 113, 128 + i, 6, 208, 0), pair);
                DUE.same("jump " + i + " with " + pair[0] + " and " + pair[1], ran(x, 9), isTaken[i] ? "h 5" : "i 4");
            }
        }
    }

    private static void calls() {
        says("a call of n, which keeps the place of the next instruction; without one the end 'h'");
        DUE.same("the next one is behind the bytes", ran(9, 128, 3, 134, 133, 2), "b 3");
        DUE.same("the next one is not wholly there", ran(9, 128, 3, 134, 133, 2, 16), "b 3");
        DUE.same("the next one is none", ran(9, 128, 3, 134, 133, 2, 208), "i 3");
        DUE.same("a second return is without one", ran(9, 133, 3, 134, 134), "h 3");
        DUE.same("the first return is without one", ran(9, 134), "h 1");
        DUE.same("a call of the last place", ran(9, 133, 2, 134), "h 3");
        DUE.same("a call behind the bytes", ran(9, 133, 3, 134), "b 1");
        DUE.same("a call of what is none", ran(9, 133, 3, 134, 208), "i 1");
        DUE.same("a call of what is not wholly there", ran(9, 133, 3, 134, 16), "b 1");
    }

    private static void tableIndexes() {
        says("the end 't' if that is not from 0 to m less 1");
        int[] one = {162, 138, 4, 1, 5, 0};
        DUE.same("0 of 1", ran(Runs.fed(one, 0), 9), "h 3");
        DUE.same("1 of 1", ran(Runs.fed(one, 1), 9), "t 2");
        DUE.same("-1 of 1", ran(Runs.fed(one, -1), 9), "t 2");
        int[] three = {162, 138, 4, 3, 7, 8, 9, 0, 208, 16};
        DUE.same("0 of 3", ran(Runs.fed(three, 0), 9), "h 3");
        DUE.same("1 of 3", ran(Runs.fed(three, 1), 9), "i 2");
        DUE.same("2 of 3", ran(Runs.fed(three, 2), 9), "b 2");
        int[] wrong = {3, -1, MOST, LEAST, MOST - 3, 256, -256};
        for (int value : wrong) {
            DUE.same(value + " of 3", ran(Runs.fed(three, value), 9), "t 2");
        }
        int[] most = row(120, 118);
        most[0] = 160;
        most[1] = 136;
        most[2] = 4;
        most[3] = 116;
        most[118] = 0;
        DUE.same("115 of 116", Runs.plain(Runs.fed(most, 115), 9), "h 3");
        DUE.same("116 of 116", Runs.plain(Runs.fed(most, 116), 9), "t 2");
        for (int s = 0; s < 4; s++) {
            DUE.same("the register x less 8", ran(9, 16 + s, 1, 136 + s, 5, 2, 0, 7, 0), "h 3");
        }
    }

    private static void tableBounds() {
        says("also a table jump with m 0, or whose table is not wholly within the bytes");
        DUE.same("m 0", ran(9, 136, 3, 0, 0), "i 0");
        DUE.same("to the last byte", ran(9, 136, 3, 1, 0), "s 9");
        DUE.same("one more", ran(9, 136, 3, 2, 0), "i 0");
        DUE.same("begins behind the bytes", ran(9, 136, 4, 1, 0), "i 0");
        DUE.same("m 0 behind the bytes", ran(9, 136, 4, 0, 0), "i 0");
        DUE.same("n 255", ran(9, 136, 255, 1, 0), "i 0");
        DUE.same("m 255", ran(9, 136, 0, 255, 0), "i 0");
        DUE.same("all of the bytes", ran(9, 136, 0, 4, 0), "b 1");
        DUE.same("more than all", ran(9, 136, 0, 5, 0), "i 0");
        int[] most = row(120, 0);
        most[0] = 136;
        most[2] = 120;
        DUE.same("120 of 120", Runs.plain(Make.of(most), 9), "b 1");
        most[2] = 121;
        DUE.same("121 of 120", Runs.plain(Make.of(most), 9), "i 0");
    }

    private static void outputs() {
        says("with 40 that came out the end 'o'");
        int[] bytes = row(41, 144);
        bytes[40] = 0;
        DUE.same("40", ran(99, bytes), "h 41" + times(" 0", 40));
        int[] more = row(42, 144);
        more[41] = 0;
        DUE.same("41", ran(99, more), "o 41" + times(" 0", 40));
    }

    private static void inputs() {
        says("the register s becomes the next input, the end 'e' if there is none");
        int[] twelve = {LEAST, MOST, 0, -1, 1, 6, 7, 8, 9, 10, 11, 12};
        int[] bytes = row(13, 160);
        bytes[12] = 0;
        DUE.same("12 of 12", ran(Runs.fed(bytes, twelve), 99), "h 13");
        bytes[12] = 160;
        DUE.same("13 of 12", ran(Runs.fed(bytes, twelve), 99), "e 13");
        DUE.same("1 of none", ran(9, 160), "e 1");
        DUE.same("the least and the most", ran(Runs.fed(Runs.bytes(163, 147, 162, 146, 0), twelve), 9), "h 5 -2147483648 2147483647");
    }

    private static void cells() {
        says("n is 0 to 7");
        for (int h = 176; h <= 192; h += 16) {
            DUE.same("cell 0", ran(9, h, 0, 0), "h 2");
            DUE.same("cell 7", ran(9, h, 7, 0), "h 2");
            DUE.same("cell 8", ran(9, h, 8, 0), "i 0");
            DUE.same("cell 255", ran(9, h, 255, 0), "i 0");
        }
    }

    private static void noInstructions() {
        says("Everything else is no instruction, the end 'i'");
        int[] values = {135, 140, 141, 142, 143, 208, 223, 224, 239, 240, 255};
        for (int value : values) {
            DUE.same("" + value, ran(9, 32, value, 0, 0), "i 1");
            DUE.same("the last byte " + value, ran(9, 32, value), "i 1");
        }
    }

    private static void notThere() {
        says("To go to a place behind the bytes, or an instruction that is not wholly there, is the end 'b'");
        int[] values = {16, 31, 128, 129, 130, 131, 132, 133, 136, 137, 138, 139, 176, 191, 192, 207};
        for (int value : values) {
            DUE.same("the last byte " + value, ran(9, 32, value), "b 1");
            DUE.same("a jump to " + value, ran(9, 128, 3, 0, value), "b 1");
        }
        for (int s = 0; s < 4; s++) {
            DUE.same("two bytes of three", ran(9, 32, 136 + s, 0), "b 1");
            DUE.same("two bytes of three, n 255", ran(9, 32, 136 + s, 255), "b 1");
        }
        DUE.same("a return at the end", ran(9, 32, 134), "h 2");
        DUE.same("behind a jump with a flag that is not taken", ran(9, 130, 0), "b 1");
    }

    private static void mostSteps() {
        says("A run ends with 's' instead of an instruction more than told; the ends 'b' and 'i' are ahead of that");
        DUE.same("a halt and 0", ran(0, 0), "s 0");
        DUE.same("a halt and 1", ran(1, 0), "h 1");
        DUE.same("'b' and 0", ran(0, 32), "s 0");
        DUE.same("'b' and 1", ran(1, 32), "b 1");
        DUE.same("'b' at once", ran(0), "b 0");
        DUE.same("'b' at once, not wholly there", ran(0, 16), "b 0");
        DUE.same("'i' and 0", ran(0, 32, 208), "s 0");
        DUE.same("'i' and 1", ran(1, 32, 208), "i 1");
        DUE.same("'i' at once", ran(0, 208), "i 0");
        DUE.same("'c' and 8", ran(8, 133, 0), "s 8");
        DUE.same("'c' and 9", ran(9, 133, 0), "c 9");
        DUE.same("'t' and 1", ran(1, 16, 1, 136, 5, 1, 0), "s 1");
        DUE.same("'t' and 2", ran(2, 16, 1, 136, 5, 1, 0), "t 2");
        DUE.same("'z' and 0", ran(0, 97), "s 0");
        DUE.same("'z' and 1", ran(1, 97), "z 1");
        DUE.same("'e' and 0", ran(0, 160), "s 0");
        DUE.same("'e' and 1", ran(1, 160), "e 1");
        DUE.same("'h' of a return and 0", ran(0, 134), "s 0");
        DUE.same("'h' of a return and 1", ran(1, 134), "h 1");
        DUE.same("'o' and 80", ran(80, 144, 128, 0), "s 80" + times(" 0", 40));
        DUE.same("'o' and 81", ran(81, 144, 128, 0), "o 81" + times(" 0", 40));
        DUE.same("2000", ran(2000, 128, 0), "s 2000");
    }
}
