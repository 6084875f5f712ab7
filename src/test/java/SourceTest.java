import java.util.NoSuchElementException;

/** Promises 28 to 34, 42 and 43: what is live, the source, what it is compiled to, and matching. */
public final class SourceTest {
    private static final Due DUE = new Due("SourceTest");
    private static final Class<IndexOutOfBoundsException> INDEX = IndexOutOfBoundsException.class;
    private static final Class<NoSuchElementException> NONE = NoSuchElementException.class;

    public static void main(String[] args) {
        live();
        liveByEach();
        idle();
        tidy();
        signs();
        wrongSigns();
        flow();
        nesting();
        compiledFlow();
        compiledInstructions();
        compiledFunctions();
        compiledTooMany();
        keeping();
        matching();
        DUE.end();
    }

    private static void live() {
        DUE.about("promise 28 ");
        // 0: a=1; 2: a~b; 3: if 0 to 7, 5: >c; 6: . 7: c=d; 8: >a; 9: .
        Sourcewright x = Make.of(16, 1, 113, 129, 7, 146, 0, 43, 144, 0);
        int[][] due = {{0, 4 + 2 + 8}, {2, 1 + 2 + 4 + 8}, {3, 1 + 4 + 8}, {5, 4}, {6, 0}, {7, 1 + 8}, {8, 1}, {9, 0}};
        for (int[] one : due) {
            DUE.same("live(0, " + one[0] + ")", x.live(0, one[0]), one[1]);
        }
        DUE.fails("live(0, 1)", NONE, () -> x.live(0, 1));
        DUE.fails("live(0, 10)", NONE, () -> x.live(0, 10));
        DUE.fails("live(0, -1)", NONE, () -> x.live(0, -1));
        DUE.fails("live(1, 0)", INDEX, () -> x.live(1, 0));
        DUE.fails("live(-1, 99)", INDEX, () -> x.live(-1, 99));
        // round a loop: 0: >a; 1: b=a; 2: jump to 0
        Sourcewright loop = Make.of(144, 36, 128, 0);
        DUE.same("round a loop", loop.live(0, 2), 1);
        Sourcewright other = Make.of(128, 4, 144, 0, 0);
        other.entry(2);
        DUE.fails("an instruction of another function", NONE, () -> other.live(0, 2));
        DUE.same("in its own", other.live(1, 2), 1);
    }

    private static void liveByEach() {
        DUE.about("promise 28 ");
        for (int s = 0; s < 4; s++) {
            int one = 1 << s;
            DUE.same("halt", Make.of(s).live(0, 0), 0);
            DUE.same("number", Make.of(16 + s, 1, 134).live(0, 0), 15 - one);
            DUE.same("out", Make.of(144 + s, 0).live(0, 0), one);
            DUE.same("in", Make.of(160 + s, 134).live(0, 0), 15 - one);
            DUE.same("cell read", Make.of(176 + s, 1, 134).live(0, 0), 15 - one);
            DUE.same("store", Make.of(192 + s, 1, 0).live(0, 0), one);
            DUE.same("table", Make.of(136 + s, 3, 1, 200).live(0, 0), one);
            for (int d = 0; d < 4; d++) {
                int both = one | 1 << d;
                DUE.same("copy", Make.of(32 + 4 * d + s, 134).live(0, 0), 15 - (1 << d) | one);
                for (int h = 3; h <= 7; h++) {
                    DUE.same("arithmetic", Make.of(16 * h + 4 * d + s, 0).live(0, 0), both);
                }
            }
        }
        DUE.same("return", Make.of(134).live(0, 0), 15);
        DUE.same("call", Make.of(133, 2, 0).live(0, 0), 15);
        DUE.same("call of what is nowhere", Make.of(133, 99).live(0, 0), 15);
        DUE.same("none", Make.of(208).live(0, 0), 0);
        DUE.same("to nowhere", Make.of(128, 99).live(0, 0), 0);
        DUE.same("a call makes all four become something", Make.of(16, 1, 133, 6, 144, 0, 134).live(0, 0), 14);
    }

    private static void idle() {
        DUE.about("promise 29 ");
        int[] values = {16, 33, 49, 65, 81, 176};
        for (int value : values) {
            Sourcewright x = value == 16 || value == 176 ? Make.of(value, 1, 0) : Make.of(value, 0);
            DUE.same("idle " + value, x.isIdle(0, 0), true);
            Sourcewright y = value == 16 || value == 176 ? Make.of(value, 1, 144, 0) : Make.of(value, 144, 0);
            DUE.same("used " + value, y.isIdle(0, 0), false);
        }
        int[] never = {0, 97, 113, 145, 161, 134, 208};
        for (int value : never) {
            DUE.same("never " + value, Make.of(value, 0).isIdle(0, 0), false);
        }
        DUE.same("never a store", Make.of(192, 1, 0).isIdle(0, 0), false);
        DUE.same("never a jump", Make.of(128, 2, 0).isIdle(0, 0), false);
        DUE.same("never a call", Make.of(133, 2, 0).isIdle(0, 0), false);
        DUE.same("a copy of itself that is used", Make.of(32, 144, 0).isIdle(0, 0), false);
        DUE.same("ahead of a call", Make.of(16, 1, 133, 4, 0).isIdle(0, 0), false);
        // idle on one way is not enough: 0: a=1; 2: if 0 to 5, 4: . 5: >a; 6: .
        Sourcewright x = Make.of(16, 1, 129, 5, 0, 144, 0);
        DUE.same("used on one way", x.isIdle(0, 0), false);
        // what an idle one uses is used: 0: a=1; 2: b=a; 3: .
        Sourcewright y = Make.of(16, 1, 36, 0);
        DUE.same("used by an idle one", y.isIdle(0, 0), false);
        DUE.same("the idle one", y.isIdle(0, 2), true);
        DUE.fails("isIdle(0, 1)", NONE, () -> y.isIdle(0, 1));
        DUE.fails("isIdle(0, 4)", NONE, () -> y.isIdle(0, 4));
        DUE.fails("isIdle(1, 0)", INDEX, () -> y.isIdle(1, 0));
        DUE.fails("isIdle(-1, -1)", INDEX, () -> y.isIdle(-1, -1));
    }

    private static void tidy() {
        DUE.about("promise 30 ");
        Sourcewright x = Make.of(16, 1, 16, 2, 97, 144, 0);
        DUE.same("as it is", Make.source(x, 0), "a=1;a=2;a/b;>a;.");
        DUE.same("tidy(true)", x.tidy(true), false);
        DUE.same("tidied", Make.source(x, 0), "a=2;a/b;>a;.");
        DUE.same("compiled tidied", Make.compiled(x), "16 2 97 144 0");
        DUE.same("tidy(true) again", x.tidy(true), true);
        DUE.same("tidy(false)", x.tidy(false), true);
        DUE.same("as it was", Make.source(x, 0), "a=1;a=2;a/b;>a;.");
        DUE.same("compiled as it was", Make.compiled(x), "16 1 16 2 97 144 0");
        Sourcewright y = Make.of(16, 1, 128, 0);
        y.tidy(true);
        DUE.same("a loop of idle ones", Make.source(y, 0), "L{^0;}");
        DUE.same("its bytes", Make.compiled(y), "128 0");
    }

    private static void signs() {
        DUE.about("promises 31 and 32 ");
        Sourcewright x = Make.of(16, 251, 17, 127, 18, 128, 19, 0, 33, 54, 75, 92, 97, 113, 145, 162, 179, 5, 192, 7, 133, 200);
        DUE.same("each instruction", Make.source(x, 0),
            "a=-5;b=127;c=-128;d=0;a=b;b+c;c-d;d*a;a/b;a~b;>b;<c;d=x5;x7=a;(200);");
        DUE.same("numbers", Make.source(Make.of(16, 9, 16, 10, 16, 99, 16, 100, 16, 255, 16, 246, 0), 0),
            "a=9;a=10;a=99;a=100;a=-1;a=-10;.");
        DUE.same("what names no d", Make.source(Make.of(31, 1, 159, 175, 191, 0, 207, 0, 15), 0), "d=1;>d;<d;d=x0;x0=d;.");
        DUE.same("none", Make.source(Make.of(144, 255), 0), ">a;%");
        DUE.same("a return", Make.source(Make.of(134), 0), ",");
        DUE.same("a call of what returns, to nowhere", Make.source(Make.of(128, 3, 134, 133, 2), 0), "(2);$");
        DUE.same("to nowhere", Make.source(Make.of(144), 0), ">a;$");
        DUE.same("a jump to nowhere", Make.source(Make.of(128, 255), 0), "$");
    }

    private static void wrongSigns() {
        DUE.about("promises 31 and 32 ");
        Sourcewright x = Make.of(16, 5, 144, 0);
        DUE.same("source(0)", x.source(0), 8);
        DUE.same("sign(0, 7)", x.sign(0, 7), '.');
        DUE.fails("sign(0, 8)", NONE, () -> x.sign(0, 8));
        DUE.fails("sign(0, -1)", NONE, () -> x.sign(0, -1));
        DUE.fails("sign(0, most)", NONE, () -> x.sign(0, Integer.MAX_VALUE));
        DUE.fails("sign(1, 0)", INDEX, () -> x.sign(1, 0));
        DUE.fails("sign(-1, -1)", INDEX, () -> x.sign(-1, -1));
        DUE.fails("source(1)", INDEX, () -> x.source(1));
        DUE.fails("source(-1)", INDEX, () -> x.source(-1));
        DUE.fails("source without bytes", INDEX, () -> new Sourcewright().source(0));
    }

    private static void flow() {
        DUE.about("promise 32, flow ");
        String kinds = "=#<]";
        for (int i = 1; i <= 4; i++) {
            Sourcewright x = Make.of(128 + i, 4, 144, 0, 145, 0);
            DUE.same("a jump with a flag", Make.source(x, 0), kinds.charAt(i - 1) + "(>b;.:>a;.)");
        }
        DUE.same("a meeting", Make.source(Make.of(129, 6, 144, 128, 7, 0, 145, 0), 0), "{=(>b;!7;:>a;!7;)}.");
        DUE.same("both to one", Make.source(Make.of(130, 2, 0), 0), "{#(!2;:!2;)}.");
        DUE.same("both to nowhere", Make.source(Make.of(131, 99), 0), "<($:$)");
        DUE.same("a table", Make.source(Make.of(138, 3, 4, 7, 200, 7, 8, 0, 144, 0), 0), "{[c(!7;:$:!7;:>a;.)}.");
        DUE.same("a table with one place", Make.source(Make.of(139, 3, 1, 4, 0), 0), "[d(.)");
        DUE.same("a table that goes back", Make.source(Make.of(136, 3, 2, 0, 0), 0), "L{[a(^0;:^0;)}");
        DUE.same("a leap", Make.source(Make.of(129, 4, 128, 4, 130, 2, 0), 0), "{=(#(!2;:.):!2;)}@4;");
        DUE.same("jumps in a row", Make.source(Make.of(128, 2, 128, 4, 0), 0), ".");
        DUE.same("an entry that is not the first place", source(4, 0, 0, 144, 0, 145, 128, 2), ">b;>a;.");
    }

    private static String source(int entry, int... bytes) {
        Sourcewright x = Make.of(bytes);
        x.entry(entry);
        return Make.source(x, 1);
    }

    private static void nesting() {
        DUE.about("promise 32, nesting ");
        DUE.same("a loop in a loop", Make.source(Make.of(113, 129, 9, 144, 130, 3, 128, 1, 0, 0), 0),
            "a~b;L{=(.:L{>a;#(^3;:^1;)})}");
        // 0: if 0 to 8, 2: if 0 to 6, 4: >a; 5: >b; (to 6) 6: >c; 7: >d; 8: .
        DUE.same("a meeting in a branch", Make.source(Make.of(129, 8, 129, 6, 144, 145, 146, 147, 0), 0),
            "{=(!8;:{=(!6;:>a;>b;!6;)}>c;>d;!8;)}.");
        // two meetings of one block: 0: [a to 7, 9, 10; 7: >a; 8: >b; 9: >c; 10: .
        DUE.same("two meetings of one block", Make.source(Make.of(136, 3, 4, 7, 9, 10, 9, 144, 145, 146, 0), 0),
            "{{[a(>a;>b;!9;:!9;:!10;:!9;)}>c;!10;}.");
        // a meeting that is a head: 0: if 0 to 2, 2: >a; 3: if 0 to 2, 5: .
        DUE.same("a meeting that is a head", Make.source(Make.of(129, 2, 144, 129, 2, 0), 0), "{=(!2;:!2;)}L{>a;=(^2;:.)}");
        // a head with meetings: 0: if 0 to 3, 2: >a; 3: if 0 to 0, 5: .
        DUE.same("a head with a meeting", Make.source(Make.of(129, 3, 144, 129, 0, 0), 0), "L{{=(!3;:>a;!3;)}=(^0;:.)}");
    }

    private static void compiledFlow() {
        DUE.about("promises 33 and 34, flow ");
        DUE.same("a jump with a flag: the next one first", Make.compiled(Make.of(130, 4, 144, 0, 145, 0)), "130 4 144 0 145 0");
        DUE.same("a loop", Make.compiled(Make.of(160, 17, 1, 114, 129, 10, 144, 65, 128, 3, 0)), "160 17 1 114 129 10 144 65 128 3 0");
        DUE.same("a meeting", Make.compiled(Make.of(129, 6, 144, 128, 7, 0, 145, 0)), "129 5 144 128 8 145 128 8 0");
        DUE.same("both to nowhere", Make.compiled(Make.of(131, 99)), "131 4 128 255 128 255");
        DUE.same("a table", Make.compiled(Make.of(138, 3, 4, 7, 200, 7, 8, 0, 144, 0)),
            "138 3 4 7 9 11 13 128 15 128 255 128 15 144 0 0");
        DUE.same("a leap", Make.compiled(Make.of(129, 4, 128, 4, 130, 2, 0)), "129 4 128 9 130 7 0 128 9 128 4");
        DUE.same("a jump in a row is none", Make.compiled(Make.of(128, 3, 0, 144, 128, 6, 145)), "144 145 128 255");
        DUE.same("itself", Make.compiled(Make.of(128, 0)), "128 0");
    }

    private static void compiledInstructions() {
        DUE.about("promises 33 and 34, instructions ");
        DUE.same("as they are", Make.compiled(Make.of(31, 251, 32, 54, 75, 92, 97, 113, 159, 175, 191, 5, 207, 7, 0)),
            "31 251 32 54 75 92 97 113 159 175 191 5 207 7 0");
        DUE.same("a halt", Make.compiled(Make.of(15)), "0");
        DUE.same("a return", Make.compiled(Make.of(134)), "134");
        DUE.same("none", Make.compiled(Make.of(144, 255)), "144 208");
        Sourcewright x = Make.of(0);
        DUE.same("compiledByte(0)", x.compiledByte(0), 0);
        DUE.fails("compiledByte(1)", NONE, () -> x.compiledByte(1));
        DUE.fails("compiledByte(-1)", NONE, () -> x.compiledByte(-1));
        DUE.fails("compiledByte(2) without bytes", NONE, () -> new Sourcewright().compiledByte(2));
    }

    private static void compiledFunctions() {
        DUE.about("promises 33 and 34, functions ");
        DUE.same("a call", Make.compiled(Make.of(133, 6, 16, 5, 144, 0, 17, 2, 129, 12, 134, 208, 134)),
            "133 6 16 5 144 0 17 2 129 11 134 134");
        DUE.same("a call of what is nowhere", Make.compiled(Make.of(133, 99)), "133 255");
        DUE.same("a call of what stands further on", Make.compiled(Make.of(133, 5, 0, 0, 0, 133, 0)), "133 2 133 0");
        Sourcewright x = Make.of(16);
        DUE.same("nothing at 0", Make.compiled(x), "128 255");
        Sourcewright y = Make.of(137, 99, 144, 0);
        y.entry(2);
        DUE.same("functions", y.functions(), 2);
        Sourcewright z = Make.of(128, 3, 144, 144, 0);
        z.entry(2);
        DUE.same("what is shared is compiled for each", Make.compiled(z), "144 0 144 144 0");
        // the bytes 16 1 144 alone are there, but 0 is no function as long as the first is not wholly there
        Sourcewright w = Make.of(16);
        w.type(1);
        DUE.same("now there is one at 0", Make.compiled(w), "16 1 128 255");
    }

    private static void compiledTooMany() {
        DUE.about("promises 33, 34, 37 and 41, too many ");
        DUE.same("239", wide(2, 78).compiled(), 239);
        DUE.same("240 by a table alone", wide(0, 79).compiled(), 240);
        Sourcewright y = wide(3, 78);
        DUE.same("240", y.compiled(), 240);
        DUE.same("the last", y.compiledByte(239), 255);
        DUE.fails("one more", NONE, () -> y.compiledByte(240));
        DUE.same("both run", y.run(true, 9), 'b');
        DUE.same("isSound of 240", y.isSound(), true);
        Sourcewright z = wide(4, 78);
        DUE.fails("241", UnsupportedOperationException.class, () -> z.compiled());
        DUE.fails("compiledByte", UnsupportedOperationException.class, () -> z.compiledByte(0));
        DUE.fails("compiledByte(-1)", UnsupportedOperationException.class, () -> z.compiledByte(-1));
        DUE.fails("run", UnsupportedOperationException.class, () -> z.run(true, 1));
        DUE.fails("run, out of range", IllegalArgumentException.class, () -> z.run(true, 2001));
        DUE.fails("agree", UnsupportedOperationException.class, () -> z.agree(1));
        DUE.fails("agree, out of range", IllegalArgumentException.class, () -> z.agree(-1));
        DUE.same("the bytes run", z.run(false, 9), 'b');
        DUE.same("isSound", z.isSound(), true);
        z.set(0, 0);
        DUE.same("fewer again", z.compiled(), 1);
    }

    /** Outs ahead of a table of places that are all behind the bytes: compiled, one byte for each out, three for each place. */
    private static Sourcewright wide(int outs, int places) {
        Sourcewright made = new Sourcewright();
        for (int i = 0; i < outs; i++) {
            made.type(144);
        }
        made.type(136);
        made.type(outs + 3);
        made.type(places);
        for (int i = 0; i < places; i++) {
            made.type(250);
        }
        return made;
    }

    private static void keeping() {
        DUE.about("promise 42 ");
        Sourcewright x = Make.of(133, 4, 0, 0, 134);
        DUE.fails("match before", NONE, () -> x.match(0));
        DUE.same("keep", x.keep(), 2);
        DUE.same("match(0)", x.match(0), 0);
        DUE.same("match(1)", x.match(1), 1);
        x.set(2, 144);
        DUE.same("keep stays after a change", x.match(1), 1);
        x.wipe();
        x.type(134);
        DUE.same("keep stays after a wipe", x.match(0), 1);
        DUE.same("keep in place of those before", x.keep(), 1);
        DUE.same("match now", x.match(0), 0);
        x.wipe();
        DUE.same("keep of none", x.keep(), 0);
        x.type(134);
        DUE.fails("match of none", NONE, () -> x.match(0));
        DUE.fails("match(1)", INDEX, () -> x.match(1));
        DUE.fails("match(-1)", INDEX, () -> x.match(-1));
    }

    private static void matching() {
        DUE.about("promise 43 ");
        Sourcewright x = Make.of(129, 4, 128, 4, 130, 2, 133, 0, 0);
        DUE.same("source", Make.source(x, 0), "{=(#(!2;:(0);):!2;)}@4;");
        x.keep();
        x.wipe();
        // the same, three places on
        int[] moved = {128, 3, 0, 129, 7, 128, 7, 130, 5, 133, 3, 0};
        for (int value : moved) {
            x.type(value);
        }
        DUE.same("source of 1", Make.source(x, 1), "{=(#(!5;:(3);):!5;)}@7;");
        DUE.same("match of 1", x.match(1), 0);
        DUE.same("match of 0", x.match(0), 0);
        x.set(7, 129);
        DUE.fails("match of another kind", NONE, () -> x.match(1));
        DUE.same("numbers count", matches(new int[] {16, 1, 0}, new int[] {16, 2, 0}), false);
        DUE.same("cells count", matches(new int[] {176, 1, 0}, new int[] {176, 2, 0}), false);
        DUE.same("places of calls do not", matches(new int[] {133, 111, 0}, new int[] {133, 99, 0}), true);
        DUE.same("'$' is no place", matches(new int[] {129, 99, 0}, new int[] {129, 2, 0}), false);
        DUE.same("a longer one", matches(new int[] {144, 0}, new int[] {144, 144, 0}), false);
        DUE.same("back", matches(new int[] {144, 128, 1}, new int[] {144, 128, 0}), false);
        Sourcewright two = Make.of(133, 4, 133, 6, 134, 0, 134);
        two.keep();
        DUE.same("the first of two alike", two.match(2), 1);
    }

    private static boolean matches(int[] one, int[] other) {
        Sourcewright x = Make.of(one);
        x.keep();
        x.wipe();
        for (int value : other) {
            x.type(value);
        }
        try {
            return x.match(0) == 0;
        } catch (NoSuchElementException e) {
            return false;
        }
    }
}
