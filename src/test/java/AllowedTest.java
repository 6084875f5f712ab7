import java.util.NoSuchElementException;

/** Promises 1 to 47, each with the smallest and the largest that is allowed, on an empty object, a small one and a full one. */
public final class AllowedTest {
    private static final Due DUE = new Due("AllowedTest");

    public static void main(String[] args) {
        emptyObject();
        bytes();
        setting();
        wiping();
        entries();
        fullPlaces();
        fullFunctions();
        fullBlocks();
        fullSource();
        inputs();
        runs();
        outputs();
        keeping();
        keepingMost();
        sums();
        tidy();
        lastCall();
        DUE.end();
    }

    private static Sourcewright repeated(int many, int value) {
        Sourcewright made = new Sourcewright();
        for (int i = 0; i < many; i++) {
            made.type(value);
        }
        return made;
    }

    private static void emptyObject() {
        DUE.about("promise 1, without bytes, entries and inputs: ");
        Sourcewright x = new Sourcewright();
        DUE.same("functions", x.functions(), 0);
        DUE.same("doubts", x.doubts(), 0);
        DUE.same("tidy", x.tidy(true), false);
        DUE.same("compiled", Make.compiled(x), "128 255");
        DUE.same("outputs", x.outputs(), 0);
        DUE.same("steps", x.steps(), 0);
        DUE.same("agree", x.agree(0), true);
        DUE.same("keep", x.keep(), 0);
        DUE.same("checksum", x.checksum(), 7);
        DUE.same("isSound", x.isSound(), true);
        DUE.same("run", x.run(false, 0), 'b');
        DUE.same("steps of the run", x.steps(), 0);
        DUE.same("run of the compiled", x.run(true, 0), 's');
        DUE.same("run of the compiled, 1", x.run(true, 1), 'b');
        DUE.same("steps of the run of the compiled", x.steps(), 1);
        DUE.same("dry", x.dry(), 0);
        DUE.same("wipe", x.wipe(), 0);
        DUE.same("input", x.input(0), 1);
        DUE.same("type", x.type(0), 1);
        Sourcewright y = new Sourcewright();
        DUE.same("a second object has none of the first's", y.functions(), 0);
        DUE.same("nor its inputs", y.dry(), 0);
        DUE.same("nor is it tidy", y.tidy(false), false);
    }

    private static void bytes() {
        DUE.about("promises 2 and 5: ");
        Sourcewright x = new Sourcewright();
        for (int i = 1; i <= 120; i++) {
            DUE.same("type", x.type(i % 2 == 0 ? 255 : 0), i);
        }
        for (int place = 0; place < 120; place++) {
            DUE.same("byteAt", x.byteAt(place), place % 2 == 0 ? 0 : 255);
        }
    }

    private static void setting() {
        DUE.about("promise 3: ");
        Sourcewright one = Make.of(7);
        DUE.same("of one byte, the most", one.set(0, 255), 7);
        DUE.same("of one byte, the least", one.set(0, 0), 255);
        DUE.same("it is set", one.byteAt(0), 0);
        Sourcewright x = repeated(120, 144);
        DUE.same("the first", x.set(0, 145), 144);
        DUE.same("the last", x.set(119, 0), 144);
        DUE.same("the same again", x.set(119, 0), 0);
        DUE.same("source", x.source(0), 119 * 3 + 1);
        DUE.same("the first sign but one", x.sign(0, 1), 'b');
        DUE.same("the last sign", x.sign(0, 119 * 3), '.');
        DUE.same("the others stay", x.byteAt(118), 144);
    }

    private static void wiping() {
        DUE.about("promise 4: ");
        Sourcewright x = RefusedTest.full();
        DUE.same("120 bytes", x.wipe(), 120);
        DUE.same("again", x.wipe(), 0);
        DUE.same("functions", x.functions(), 0);
        DUE.same("doubts", x.doubts(), 0);
        DUE.same("numbers stay", x.outputs(), 40);
        DUE.same("steps stay", x.steps(), 82);
        DUE.same("it stays tidy", x.tidy(true), true);
        DUE.same("type again", x.type(255), 1);
        for (int i = 2; i <= 120; i++) {
            x.type(0);
        }
        for (int i = 1; i <= 4; i++) {
            DUE.same("entries again", x.entry(i), i);
        }
        DUE.same("inputs stay", x.dry(), 12);
    }

    private static void entries() {
        DUE.about("promise 6: ");
        Sourcewright x = repeated(120, 0);
        DUE.same("the last place", x.entry(119), 1);
        DUE.same("the place 1", x.entry(1), 2);
        DUE.same("the third", x.entry(60), 3);
        DUE.same("the fourth", x.entry(118), 4);
        DUE.same("functions", x.functions(), 5);
        Sourcewright two = repeated(2, 16);
        DUE.same("of two bytes", two.entry(1), 1);
        DUE.same("nothing is wholly there", two.functions(), 1);
        DUE.same("one byte more", two.type(0), 3);
        DUE.same("and it is", two.functions(), 2);
    }

    private static void fullPlaces() {
        DUE.about("promises 7 to 10, 13 and 14: ");
        Sourcewright x = RefusedTest.full();
        DUE.same("kinds", Make.kinds(x, 120), "ccco" + "-".repeat(96) + "c".repeat(20));
        DUE.same("doubts", x.doubts(), 0);
        int[] places = {0, 2, 3, 4, 99, 100, 119};
        int[] lengths = {1, 2, 1, 1, 1, 1, 1};
        int[] sharers = {1, 1, 0, 0, 0, 1, 4};
        for (int i = 0; i < places.length; i++) {
            DUE.same("length " + places[i], x.length(places[i]), lengths[i]);
            DUE.same("sharers " + places[i], x.sharers(places[i]), sharers[i]);
            DUE.same("isInDoubt " + places[i], x.isInDoubt(places[i]), false);
        }
        DUE.same("functionOf(0)", x.functionOf(0), 0);
        DUE.same("functionOf(119)", x.functionOf(119), 1);
        Sourcewright all = Make.of(Programs.tables());
        DUE.same("all but the last jump's are of tables, too", all.doubts(), 117);
        DUE.same("the first is in doubt", all.isInDoubt(0), true);
        DUE.same("the last is not", all.isInDoubt(119), false);
        DUE.same("length of three at 117", all.length(117), 3);
    }

    private static void fullFunctions() {
        DUE.about("promises 11, 12, 15 and 16: ");
        Sourcewright x = RefusedTest.full();
        DUE.same("functions", x.functions(), 5);
        int[] due = {0, 100, 110, 118, 119};
        for (int i = 0; i < due.length; i++) {
            DUE.same("entryOf " + i, x.entryOf(i), due[i]);
            DUE.same("mayReturn " + i, x.mayReturn(i), false);
            DUE.same("calls " + i, x.calls(i, 4 - i), 0);
        }
        x.set(119, 134);
        DUE.same("the first", x.mayReturn(0), false);
        DUE.same("the last", x.mayReturn(4), true);
        Sourcewright calls = new Sourcewright();
        for (int i = 0; i < 59; i++) {
            calls.type(133);
            calls.type(118);
        }
        calls.type(134);
        DUE.same("functions of 59 calls", calls.functions(), 2);
        DUE.same("calls of one by the other", calls.calls(0, 1), 59);
        DUE.same("calls of itself", calls.calls(0, 0), 0);
        DUE.same("calls by what is called", calls.calls(1, 0), 0);
        DUE.same("both have the return", calls.sharers(118), 2);
        DUE.same("run", Runs.told(DUE, calls, 2000), "h 119");
    }

    private static void fullBlocks() {
        DUE.about("promises 17 to 29: ");
        Sourcewright x = RefusedTest.full();
        DUE.same("blocks", x.blocks(0), 2);
        DUE.same("first(0, 0)", x.first(0, 0), 0);
        DUE.same("first(0, 1)", x.first(0, 1), 1);
        DUE.same("first(4, 0)", x.first(4, 0), 119);
        DUE.same("size(0, 0)", x.size(0, 0), 1);
        DUE.same("size(0, 1)", x.size(0, 1), 2);
        DUE.same("size(1, 0)", x.size(1, 0), 20);
        DUE.same("nexts(0, 1)", x.nexts(0, 1), 1);
        DUE.same("next(0, 1, 0)", x.next(0, 1, 0), 1);
        DUE.same("next(4, 0, 0)", x.next(4, 0, 0), -1);
        DUE.same("nearest(0, 1)", x.nearest(0, 1), 0);
        DUE.same("order(0, 1)", x.order(0, 1), 1);
        DUE.same("order(4, 0)", x.order(4, 0), 0);
        DUE.same("isHead(0, 0)", x.isHead(0, 0), false);
        DUE.same("isHead(0, 1)", x.isHead(0, 1), true);
        DUE.same("depth(0, 0)", x.depth(0, 0), 0);
        DUE.same("depth(0, 1)", x.depth(0, 1), 1);
        DUE.same("isMeeting(0, 1)", x.isMeeting(0, 1), false);
        DUE.same("leaps(4)", x.leaps(4), 0);
        DUE.same("live(0, 0)", x.live(0, 0), 0);
        DUE.same("live(0, 2)", x.live(0, 2), 1);
        DUE.same("live(4, 119)", x.live(4, 119), 1);
        DUE.same("isIdle(4, 119)", x.isIdle(4, 119), false);
        DUE.same("meanBlock(0)", x.meanBlock(0), 1.5);
        DUE.same("meanBlock(1)", x.meanBlock(1), 20.0);
    }

    private static void fullSource() {
        DUE.about("promises 31 to 34: ");
        Sourcewright x = RefusedTest.full();
        DUE.same("source(0)", Make.source(x, 0), "<a;L{>a;^1;}");
        DUE.same("source(4)", Make.source(x, 4), ">a;$");
        DUE.same("source(1)", x.source(1), 61);
        DUE.same("sign(1, 60)", x.sign(1, 60), '$');
        DUE.same("sign(1, 0)", x.sign(1, 0), '>');
        DUE.same("compiled", x.compiled(), 45);
        DUE.same("compiledByte(0)", x.compiledByte(0), 160);
        DUE.same("compiledByte(3)", x.compiledByte(3), 1);
        DUE.same("compiledByte(44)", x.compiledByte(44), 255);
        Sourcewright all = Make.of(Programs.tables());
        int many = all.source(0);
        DUE.same("the longest begins", all.sign(0, 0), 'L');
        DUE.check(all.sign(0, many - 1) != 0, "the longest ends");
        DUE.fails("behind its last", NoSuchElementException.class, () -> all.sign(0, many));
    }

    private static void inputs() {
        DUE.about("promises 35 and 36: ");
        Sourcewright x = Make.of(160, 144, 128, 0);
        int[] values = {Integer.MIN_VALUE, Integer.MAX_VALUE, 0, -1};
        for (int i = 0; i < 12; i++) {
            DUE.same("input", x.input(values[i % 4]), i + 1);
        }
        DUE.same("all come in", Runs.plain(x, 2000), "e 37" + " -2147483648 2147483647 0 -1".repeat(3));
        DUE.same("they stay for the next run", x.run(true, 2000), 'e');
        DUE.same("12 came out", x.outputs(), 12);
        DUE.same("dry", x.dry(), 12);
        DUE.same("the numbers stay", x.output(0), Integer.MIN_VALUE);
        DUE.same("dry of none", x.dry(), 0);
        DUE.same("input again", x.input(5), 1);
    }

    private static void runs() {
        DUE.about("promises 37 and 41: ");
        Sourcewright x = Make.of(128, 0);
        for (int steps : new int[] {0, 1, 1999, 2000}) {
            DUE.same("run", x.run(false, steps), 's');
            DUE.same("steps", x.steps(), steps);
            DUE.same("run of the compiled", x.run(true, steps), 's');
            DUE.same("steps of the compiled", x.steps(), steps);
            DUE.same("agree", x.agree(steps), true);
        }
        // 0: a=1; 2: b=101; 4: c+a; c~b; if below 0 to 4, 8: >c; .
        Sourcewright loop = Make.of(16, 1, 17, 101, 56, 121, 131, 4, 146, 0);
        DUE.same("101 times round", Runs.told(DUE, loop, 2000), "h 307 101");
        DUE.same("one less is too few", Runs.plain(loop, 306), "s 306 101");
    }

    private static void outputs() {
        DUE.about("promises 38 to 40: ");
        Sourcewright x = RefusedTest.full();
        DUE.same("outputs", x.outputs(), 40);
        DUE.same("output(0)", x.output(0), 77);
        DUE.same("output(39)", x.output(39), 77);
        DUE.same("steps", x.steps(), 82);
        DUE.same("a run of nothing", x.run(false, 0), 's');
        DUE.same("no outputs", x.outputs(), 0);
        DUE.same("no steps", x.steps(), 0);
        DUE.fails("output(0) of none", NoSuchElementException.class, () -> x.output(0));
    }

    private static void keeping() {
        DUE.about("promises 42 and 43: ");
        Sourcewright x = RefusedTest.full();
        for (int function = 0; function < 5; function++) {
            DUE.same("match " + function, x.match(function), function);
        }
        DUE.same("keep", x.keep(), 5);
        x.wipe();
        DUE.same("keep of none", x.keep(), 0);
        // five functions, each with all forty table jumps, whose sources are the longest ones
        Sourcewright all = Make.of(Programs.tables());
        for (int entry : new int[] {3, 6, 114, 117}) {
            all.entry(entry);
        }
        DUE.same("keep of long ones", all.keep(), 5);
        DUE.same("keep again", all.keep(), 5);
        for (int function = 0; function < 5; function++) {
            DUE.same("match of a long one", all.match(function) <= function, true);
        }
    }

    private static void keepingMost() {
        DUE.about("promises 42 and 43, the longest sources of many functions: ");
        Sourcewright x = Make.of(Programs.calledTables());
        java.util.List<String> kept = new java.util.ArrayList<>();
        int signs = 0;
        for (int function = 0; function < x.functions(); function++) {
            kept.add(Oracle.withoutPlaces(Make.source(x, function)));
            signs += x.source(function);
        }
        DUE.check(kept.size() >= 20 && signs > 150000, kept.size() + " functions of " + signs + " signs in all");
        DUE.same("keep", x.keep(), kept.size());
        for (int function = 0; function < kept.size(); function++) {
            DUE.same("match " + function, x.match(function), kept.indexOf(kept.get(function)));
        }
        x.set(2, 79);
        for (int function = 0; function < x.functions(); function++) {
            int due = kept.indexOf(Oracle.withoutPlaces(Make.source(x, function)));
            int asked = function;
            if (due >= 0) {
                DUE.same("match after a change " + function, x.match(function), due);
            } else {
                DUE.fails("match after a change " + function, NoSuchElementException.class, () -> x.match(asked));
            }
        }
        DUE.same("isSound", x.isSound(), true);
    }

    private static void sums() {
        DUE.about("promises 44 to 47: ");
        Sourcewright x = RefusedTest.full();
        DUE.same("codeShare", x.codeShare(), 24f / 120f);
        DUE.same("isSound", x.isSound(), true);
        long sum = 7;
        String kinds = "ccco" + "-".repeat(96) + "c".repeat(20);
        for (int i = 0; i < 120; i++) {
            sum = 31 * sum + kinds.charAt(i);
        }
        long[] rest = {0, 12, 100, 61, 110, 31, 118, 7, 119, 4};
        for (long one : rest) {
            sum = 31 * sum + one;
        }
        DUE.same("checksum", x.checksum(), sum);
        DUE.same("one byte, all code", Make.of(255).codeShare(), 1f);
        DUE.same("one byte, none", Make.of(16).codeShare(), 0f);
        DUE.same("one of 120", repeated(120, 0).codeShare(), 1f / 120f);
        DUE.same("one of three, as a float", Make.of(0, 0, 0).codeShare(), (double) (1f / 3f));
        DUE.same("one instruction, one block", Make.of(0).meanBlock(0), 1.0);
        DUE.same("four by three, as a double", Make.of(129, 4, 144, 0, 0).meanBlock(0), 4.0 / 3.0);
    }

    private static void tidy() {
        DUE.about("promise 30: ");
        Sourcewright x = new Sourcewright();
        DUE.same("not at first", x.tidy(false), false);
        DUE.same("still not", x.tidy(true), false);
        DUE.same("it is", x.tidy(true), true);
        DUE.same("it is no more", x.tidy(false), true);
        DUE.same("it was not", x.tidy(false), false);
    }

    private static void lastCall() {
        DUE.about("at most 512 calls: ");
        Sourcewright x = new Sourcewright();
        for (int i = 1; i <= 120; i++) {
            x.type(i < 120 ? 144 : 0);
        }
        for (int call = 121; call <= 511; call += 3) {
            DUE.same("set", x.set(0, call % 2 == 0 ? 144 : 145), call == 121 ? 144 : call % 2 == 0 ? 145 : 144);
            DUE.same("keep", x.keep(), 1);
            DUE.same("match", x.match(0), 0);
        }
        DUE.same("the 511th", x.checksum() != 0, true);
        DUE.same("the 512th", x.isSound(), true);
    }
}
