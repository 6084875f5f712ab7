import java.util.NoSuchElementException;

/**
 * The calls that are refused, on an empty object, a small one, a full one, and one that comes to too many compiled bytes:
 * the exception that is due, the one that is listed first where several conditions apply, and that nothing is changed.
 */
public final class RefusedTest {
    private static final Due DUE = new Due("RefusedTest");
    private static final Class<IndexOutOfBoundsException> INDEX = IndexOutOfBoundsException.class;
    private static final Class<IllegalArgumentException> ARGUMENT = IllegalArgumentException.class;
    private static final Class<IllegalStateException> STATE = IllegalStateException.class;
    private static final Class<UnsupportedOperationException> UNSUPPORTED = UnsupportedOperationException.class;
    private static final Class<NoSuchElementException> NONE = NoSuchElementException.class;
    private static final Class<ArithmeticException> ARITHMETIC = ArithmeticException.class;
    private static final int LEAST = Integer.MIN_VALUE;
    private static final int MOST = Integer.MAX_VALUE;

    private final Sourcewright x;
    private final Sourcewright twin;
    private int refused = 0;

    private RefusedTest(String what, Sourcewright x, Sourcewright twin) {
        DUE.about(what + ": ");
        this.x = x;
        this.twin = twin;
    }

    public static void main(String[] args) {
        empty(new RefusedTest("no bytes", new Sourcewright(), new Sourcewright()));
        small(new RefusedTest("a small one", small(), small()));
        full(new RefusedTest("a full one", full(), full()));
        tooMany(new RefusedTest("too many compiled", tooMany(), tooMany()));
        DUE.end();
    }

    /** Behind each refused call the object tells the same as ahead of it. */
    private void no(String call, Class<? extends RuntimeException> due, Runnable what) {
        String before = State.told(x);
        DUE.fails(call, due, what);
        DUE.same("behind " + call, State.told(x), before);
        refused++;
    }

    /** What cannot be seen without a change is compared with a twin that was not asked. */
    private void end(int least) {
        DUE.check(refused >= least, "only " + refused + " calls");
        DUE.same("all", State.told(x), State.told(twin));
        DUE.same("what changes tell", State.spent(x), State.spent(twin));
    }

    /** At 0: (5);>a;. in one block, at 5: , and 4 is not walked to. */
    private static Sourcewright small() {
        Sourcewright made = Make.of(133, 5, 144, 0, 16, 134);
        made.input(3);
        made.run(false, 9);
        return made;
    }

    /** 120 bytes, four entries, 12 inputs, 40 numbers that came out, all sources kept, tidy. */
    static Sourcewright full() {
        int[] bytes = new int[120];
        java.util.Arrays.fill(bytes, 144);
        bytes[0] = 160;
        bytes[2] = 128;
        bytes[3] = 1;
        Sourcewright made = Make.of(bytes);
        for (int entry : new int[] {119, 100, 118, 110}) {
            made.entry(entry);
        }
        for (int i = 0; i < 12; i++) {
            made.input(77 + i);
        }
        made.run(false, 2000);
        made.keep();
        made.tidy(true);
        return made;
    }

    /** Two functions of 120 and of 117 outs, and a jump behind each of them. */
    private static Sourcewright tooMany() {
        int[] bytes = new int[120];
        java.util.Arrays.fill(bytes, 144);
        Sourcewright made = Make.of(bytes);
        made.entry(3);
        made.input(1);
        made.run(false, 12);
        return made;
    }

    private static void empty(RefusedTest t) {
        Sourcewright x = t.x;
        int[] all = {0, -1, 1, 119, 120, LEAST, MOST};
        for (int i : all) {
            t.no("set, no byte", INDEX, () -> x.set(i, 0));
            t.no("set, no byte and out of range", INDEX, () -> x.set(i, 256));
            t.no("byteAt", INDEX, () -> x.byteAt(i));
            t.no("entry", INDEX, () -> x.entry(i));
            t.places(i);
            t.functions(i, 0);
            t.no("calls, the other", INDEX, () -> x.calls(0, i));
            t.no("output", NONE, () -> x.output(i));
        }
        t.values();
        t.no("codeShare", ARITHMETIC, () -> x.codeShare());
        t.no("compiledByte behind the jump", NONE, () -> x.compiledByte(2));
        t.no("compiledByte(-1)", NONE, () -> x.compiledByte(-1));
        t.end(150);
    }

    /** Places where there is no byte, of methods that ask of one. */
    private void places(int place) {
        no("kind", INDEX, () -> x.kind(place));
        no("isInDoubt", INDEX, () -> x.isInDoubt(place));
        no("length", INDEX, () -> x.length(place));
        no("functionOf", INDEX, () -> x.functionOf(place));
        no("sharers", INDEX, () -> x.sharers(place));
    }

    /** Functions that are none: it does not count what else is asked, right or wrong. */
    private void functions(int function, int block) {
        no("entryOf", INDEX, () -> x.entryOf(function));
        no("mayReturn", INDEX, () -> x.mayReturn(function));
        no("calls", INDEX, () -> x.calls(function, block));
        no("blocks", INDEX, () -> x.blocks(function));
        no("leaps", INDEX, () -> x.leaps(function));
        no("source", INDEX, () -> x.source(function));
        no("match", INDEX, () -> x.match(function));
        no("meanBlock", INDEX, () -> x.meanBlock(function));
        no("live", INDEX, () -> x.live(function, block));
        no("isIdle", INDEX, () -> x.isIdle(function, block));
        no("sign", INDEX, () -> x.sign(function, block));
        blocks(function, block);
    }

    /** A function or a block that is none, and with it an index of any kind. */
    private void blocks(int function, int block) {
        no("first", INDEX, () -> x.first(function, block));
        no("size", INDEX, () -> x.size(function, block));
        no("nexts", INDEX, () -> x.nexts(function, block));
        no("next", INDEX, () -> x.next(function, block, 0));
        no("next, index too", INDEX, () -> x.next(function, block, -1));
        no("nearest", INDEX, () -> x.nearest(function, block));
        no("order", INDEX, () -> x.order(function, block));
        no("isHead", INDEX, () -> x.isHead(function, block));
        no("depth", INDEX, () -> x.depth(function, block));
        no("isMeeting", INDEX, () -> x.isMeeting(function, block));
    }

    /** Values that no byte has, and numbers of steps that no run has. */
    private void values() {
        for (int value : new int[] {-1, 256, LEAST, MOST}) {
            no("type", ARGUMENT, () -> x.type(value));
        }
        for (int steps : new int[] {-1, 2001, LEAST, MOST}) {
            no("run", ARGUMENT, () -> x.run(false, steps));
            no("run of the compiled", ARGUMENT, () -> x.run(true, steps));
            no("agree", ARGUMENT, () -> x.agree(steps));
        }
    }

    private static void small(RefusedTest t) {
        Sourcewright x = t.x;
        for (int place : new int[] {-1, 6, LEAST, MOST}) {
            t.no("set", INDEX, () -> x.set(place, 0));
            t.no("set, out of range too", INDEX, () -> x.set(place, -1));
            t.no("byteAt", INDEX, () -> x.byteAt(place));
            t.no("entry", INDEX, () -> x.entry(place));
            t.places(place);
            t.no("live", NONE, () -> x.live(0, place));
            t.no("isIdle", NONE, () -> x.isIdle(1, place));
        }
        for (int value : new int[] {-1, 256, LEAST, MOST}) {
            t.no("set, out of range", ARGUMENT, () -> x.set(0, value));
            t.no("set, out of range, at the last", ARGUMENT, () -> x.set(5, value));
        }
        for (int function : new int[] {-1, 2, LEAST, MOST}) {
            t.functions(function, 0);
            t.functions(function, 1);
            t.no("calls, the other", INDEX, () -> x.calls(1, function));
            t.no("live, no instruction either", INDEX, () -> x.live(function, 1));
            t.no("isIdle, no instruction either", INDEX, () -> x.isIdle(function, 4));
            t.no("sign, no sign either", INDEX, () -> x.sign(function, -1));
        }
        for (int block : new int[] {-1, 1, LEAST, MOST}) {
            t.blocks(0, block);
            t.blocks(1, block);
        }
        t.values();
        smallNone(t);
        t.end(220);
    }

    private static void smallNone(RefusedTest t) {
        Sourcewright x = t.x;
        t.no("entry(0)", UNSUPPORTED, () -> x.entry(0));
        t.no("functionOf another byte", NONE, () -> x.functionOf(1));
        t.no("functionOf what is not walked to", NONE, () -> x.functionOf(4));
        t.no("live of another byte", NONE, () -> x.live(0, 1));
        t.no("live of another function", NONE, () -> x.live(0, 5));
        t.no("isIdle of another function", NONE, () -> x.isIdle(1, 0));
        t.no("next behind a halt", NONE, () -> x.next(0, 0, 0));
        t.no("next(0, 0, -1)", NONE, () -> x.next(0, 0, -1));
        t.no("next, most", NONE, () -> x.next(1, 0, MOST));
        t.no("nearest of the entry's block", NONE, () -> x.nearest(0, 0));
        t.no("nearest of another entry's block", NONE, () -> x.nearest(1, 0));
        t.no("sign behind the last", NONE, () -> x.sign(0, 8));
        t.no("sign(0, -1)", NONE, () -> x.sign(0, -1));
        t.no("compiledByte behind the last", NONE, () -> x.compiledByte(5));
        t.no("compiledByte, least", NONE, () -> x.compiledByte(LEAST));
        t.no("output behind the last", NONE, () -> x.output(1));
        t.no("output(-1)", NONE, () -> x.output(-1));
        t.no("match without any kept", NONE, () -> x.match(0));
    }

    private static void full(RefusedTest t) {
        Sourcewright x = t.x;
        t.no("the 121st byte", STATE, () -> x.type(0));
        t.no("the 121st byte, 255", STATE, () -> x.type(255));
        t.values();
        for (int place : new int[] {-1, 120, LEAST, MOST}) {
            t.no("set", INDEX, () -> x.set(place, 256));
            t.no("byteAt", INDEX, () -> x.byteAt(place));
            t.no("entry, with four told", INDEX, () -> x.entry(place));
            t.places(place);
        }
        t.no("set, out of range", ARGUMENT, () -> x.set(119, 256));
        t.no("entry(0), with four told", UNSUPPORTED, () -> x.entry(0));
        for (int place : new int[] {100, 110, 118, 119}) {
            t.no("entry, told and with four told", UNSUPPORTED, () -> x.entry(place));
        }
        t.no("the fifth entry", STATE, () -> x.entry(1));
        t.no("the fifth entry, elsewhere", STATE, () -> x.entry(117));
        t.no("the 13th input", STATE, () -> x.input(0));
        t.no("the 13th input, least", STATE, () -> x.input(LEAST));
        t.functions(5, 0);
        t.functions(-1, 119);
        t.blocks(0, 2);
        t.blocks(4, 1);
        t.no("the 41st number", NONE, () -> x.output(40));
        t.no("output(-1)", NONE, () -> x.output(-1));
        t.no("sign behind the last", NONE, () -> x.sign(1, 61));
        t.no("compiledByte behind the last", NONE, () -> x.compiledByte(45));
        t.no("functionOf what is not walked to", NONE, () -> x.functionOf(99));
        t.no("live of what is not walked to", NONE, () -> x.live(0, 99));
        t.end(100);
    }

    private static void tooMany(RefusedTest t) {
        Sourcewright x = t.x;
        t.no("compiled", UNSUPPORTED, () -> x.compiled());
        for (int place : new int[] {0, 239, 240, 241, -1, LEAST, MOST}) {
            t.no("compiledByte", UNSUPPORTED, () -> x.compiledByte(place));
        }
        for (int steps : new int[] {0, 1, 2000}) {
            t.no("run", UNSUPPORTED, () -> x.run(true, steps));
            t.no("agree", UNSUPPORTED, () -> x.agree(steps));
        }
        t.values();
        t.end(25);
    }
}
