import java.util.NoSuchElementException;

/** Promises 1 to 10: bytes, entries and what each byte is. */
public final class BytesTest {
    private static final Due DUE = new Due("BytesTest");
    private static final Class<IndexOutOfBoundsException> INDEX = IndexOutOfBoundsException.class;
    private static final Class<IllegalArgumentException> ARGUMENT = IllegalArgumentException.class;
    private static final Class<IllegalStateException> STATE = IllegalStateException.class;
    private static final Class<UnsupportedOperationException> UNSUPPORTED = UnsupportedOperationException.class;

    public static void main(String[] args) {
        newObject();
        typing();
        setting();
        wiping();
        readingBytes();
        entries();
        kinds();
        kindsOfUnreached();
        doubts();
        lengths();
        DUE.end();
    }

    private static void newObject() {
        DUE.about("promise 1 ");
        Sourcewright x = new Sourcewright();
        DUE.same("functions", x.functions(), 0);
        DUE.same("doubts", x.doubts(), 0);
        DUE.same("outputs", x.outputs(), 0);
        DUE.same("steps", x.steps(), 0);
        DUE.same("checksum", x.checksum(), 7);
        DUE.same("compiled", Make.compiled(x), "128 255");
        DUE.same("isSound", x.isSound(), true);
        DUE.same("keep", x.keep(), 0);
        DUE.same("dry", x.dry(), 0);
        DUE.same("tidy", x.tidy(false), false);
        DUE.same("wipe", x.wipe(), 0);
        DUE.fails("byteAt(0)", INDEX, () -> x.byteAt(0));
        DUE.fails("output(0)", NoSuchElementException.class, () -> x.output(0));
        DUE.fails("entry(0)", INDEX, () -> x.entry(0));
    }

    private static void typing() {
        DUE.about("promise 2 ");
        Sourcewright x = new Sourcewright();
        DUE.same("type(0)", x.type(0), 1);
        DUE.same("type(255)", x.type(255), 2);
        DUE.fails("type(-1)", ARGUMENT, () -> x.type(-1));
        DUE.fails("type(256)", ARGUMENT, () -> x.type(256));
        DUE.fails("type(least)", ARGUMENT, () -> x.type(Integer.MIN_VALUE));
        DUE.fails("type(most)", ARGUMENT, () -> x.type(Integer.MAX_VALUE));
        for (int i = 3; i <= 120; i++) {
            DUE.same("type", x.type(i), i);
        }
        DUE.fails("the 121st", STATE, () -> x.type(0));
        DUE.fails("the 121st, out of range", ARGUMENT, () -> x.type(256));
        DUE.same("byteAt(119)", x.byteAt(119), 120);
        DUE.fails("byteAt(120)", INDEX, () -> x.byteAt(120));
    }

    private static void setting() {
        DUE.about("promise 3 ");
        Sourcewright x = Make.of(1, 2, 3);
        DUE.same("set(0, 255)", x.set(0, 255), 1);
        DUE.same("set(0, 0)", x.set(0, 0), 255);
        DUE.same("set(2, 144)", x.set(2, 144), 3);
        DUE.fails("set(3, 0)", INDEX, () -> x.set(3, 0));
        DUE.fails("set(-1, 0)", INDEX, () -> x.set(-1, 0));
        DUE.fails("set(3, 256)", INDEX, () -> x.set(3, 256));
        DUE.fails("set(0, 256)", ARGUMENT, () -> x.set(0, 256));
        DUE.fails("set(0, -1)", ARGUMENT, () -> x.set(0, -1));
        DUE.same("byteAt(0)", x.byteAt(0), 0);
        DUE.same("byteAt(1)", x.byteAt(1), 2);
        DUE.same("byteAt(2)", x.byteAt(2), 144);
        DUE.same("source", Make.source(x, 0), ".");
        x.set(0, 145);
        DUE.same("source after a change", Make.source(x, 0), ">b;.");
    }

    private static void wiping() {
        DUE.about("promise 4 ");
        Sourcewright x = Make.of(144, 0, 0);
        x.input(4);
        x.run(false, 9);
        x.entry(1);
        DUE.same("functions before", x.functions(), 2);
        DUE.same("wipe", x.wipe(), 3);
        DUE.same("functions", x.functions(), 0);
        DUE.same("wipe again", x.wipe(), 0);
        DUE.same("outputs stay", x.outputs(), 1);
        x.type(0);
        x.type(0);
        DUE.same("functions without the entry", x.functions(), 1);
        DUE.same("entry(1)", x.entry(1), 1);
        DUE.same("inputs stay", x.dry(), 1);
    }

    private static void readingBytes() {
        DUE.about("promise 5 ");
        Sourcewright x = Make.of(7, 255);
        DUE.same("byteAt(0)", x.byteAt(0), 7);
        DUE.same("byteAt(1)", x.byteAt(1), 255);
        DUE.fails("byteAt(2)", INDEX, () -> x.byteAt(2));
        DUE.fails("byteAt(-1)", INDEX, () -> x.byteAt(-1));
        DUE.fails("byteAt(least)", INDEX, () -> x.byteAt(Integer.MIN_VALUE));
    }

    private static void entries() {
        DUE.about("promise 6 ");
        Sourcewright x = Make.of(0, 0, 0, 0, 0, 0, 16);
        DUE.fails("entry(7)", INDEX, () -> x.entry(7));
        DUE.fails("entry(-1)", INDEX, () -> x.entry(-1));
        DUE.fails("entry(0)", UNSUPPORTED, () -> x.entry(0));
        DUE.same("entry(5)", x.entry(5), 1);
        DUE.fails("entry(5) again", UNSUPPORTED, () -> x.entry(5));
        DUE.same("entry(1)", x.entry(1), 2);
        DUE.same("entry(6), where nothing is wholly there", x.entry(6), 3);
        DUE.same("functions", x.functions(), 3);
        DUE.same("entry(2)", x.entry(2), 4);
        DUE.fails("entry(3)", STATE, () -> x.entry(3));
        DUE.fails("entry(2) again", UNSUPPORTED, () -> x.entry(2));
        DUE.fails("entry(0) with four", UNSUPPORTED, () -> x.entry(0));
        DUE.fails("entry(7) with four", INDEX, () -> x.entry(7));
        DUE.same("functions with four", x.functions(), 4);
        x.type(0);
        DUE.same("functions when the last is wholly there", x.functions(), 5);
        DUE.same("entryOf(4)", x.entryOf(4), 6);
    }

    private static void kinds() {
        DUE.about("promise 7 ");
        // <a; [a( by the table at 5, which leads to 7 and to 200, then what is none, and what is not walked to
        Sourcewright x = Make.of(160, 136, 5, 2, 144, 7, 200, 208, 0);
        DUE.same("kinds", Make.kinds(x, 9), "ccoo-ttc-");
        DUE.fails("kind(9)", INDEX, () -> x.kind(9));
        DUE.fails("kind(-1)", INDEX, () -> x.kind(-1));
        x.set(3, 0);
        DUE.same("kinds with an empty table", Make.kinds(x, 9), "cc-------");
        x.set(3, 4);
        DUE.same("kinds with a table to the end", Make.kinds(x, 9), "ccoo-ttct");
        x.set(3, 5);
        DUE.same("kinds with a table too long", Make.kinds(x, 9), "cc-------");
    }

    private static void kindsOfUnreached() {
        DUE.about("promise 7 ");
        DUE.same("cell 7, cell 8", Make.kinds(Make.of(176, 7, 192, 8, 0), 5), "coc--");
        DUE.same("a halt ends", Make.kinds(Make.of(15, 0), 2), "c-");
        DUE.same("a return ends", Make.kinds(Make.of(134, 0), 2), "c-");
        DUE.same("an end of arithmetic does not", Make.kinds(Make.of(96, 0), 2), "cc");
        DUE.same("a jump", Make.kinds(Make.of(128, 3, 0, 0), 4), "co-c");
        DUE.same("a jump with a flag", Make.kinds(Make.of(132, 3, 0, 0), 4), "cocc");
        DUE.same("135 is none", Make.kinds(Make.of(135, 0), 2), "c-");
        DUE.same("140 is none", Make.kinds(Make.of(140, 0), 2), "c-");
        DUE.same("the last is not wholly there", Make.kinds(Make.of(144, 16), 2), "c-");
        DUE.same("nothing is wholly there", Make.kinds(Make.of(137, 0), 2), "--");
        DUE.same("a call of what returns", Make.kinds(Make.of(133, 4, 0, 0, 134), 5), "coc-c");
        DUE.same("a call of what does not", Make.kinds(Make.of(133, 4, 0, 0, 0), 5), "co--c");
        DUE.same("a call behind the bytes", Make.kinds(Make.of(133, 200, 0), 3), "co-");
    }

    private static void doubts() {
        DUE.about("promises 8 and 9 ");
        Sourcewright x = Make.of(129, 1, 0);
        DUE.same("an instruction's other byte begins one", x.isInDoubt(1), true);
        DUE.same("place 0", x.isInDoubt(0), false);
        DUE.same("doubts", x.doubts(), 1);
        DUE.same("kind(1)", x.kind(1), 'c');
        DUE.fails("isInDoubt(3)", INDEX, () -> x.isInDoubt(3));
        DUE.fails("isInDoubt(-1)", INDEX, () -> x.isInDoubt(-1));
        // at 2 a table jump of three bytes, at 3 a number of two: the byte 4 is another one of both
        Sourcewright y = Make.of(129, 3, 136, 16, 1, 0, 0, 0, 0, 0, 0, 0, 0, 0, 0, 0, 5);
        DUE.same("kinds", Make.kinds(y, 17), "coccoc----------t");
        DUE.same("begins and is another", y.isInDoubt(3), true);
        DUE.same("another one of two", y.isInDoubt(4), true);
        DUE.same("of a table alone", y.isInDoubt(16), false);
        DUE.same("doubts of y", y.doubts(), 2);
        // the table is in the jump itself, and in what it leads to
        Sourcewright z = Make.of(136, 1, 4, 0, 0);
        DUE.same("kinds of z", Make.kinds(z, 5), "ccotc");
        DUE.same("begins, is another and of a table", z.isInDoubt(1), true);
        DUE.same("is another and of a table", z.isInDoubt(2), true);
        DUE.same("begins and is of a table", z.isInDoubt(4), true);
        DUE.same("is of a table alone", z.isInDoubt(3), false);
        DUE.same("doubts of z", z.doubts(), 3);
    }

    private static void lengths() {
        DUE.about("promise 10 ");
        Sourcewright x = Make.of(0, 16, 1, 128, 0, 134, 136, 0, 1, 136, 0, 0, 208, 176, 8, 192, 7, 133, 0, 7, 135, 137, 1);
        int[] due = {1, 2, 1, 2, 1, 1, 3, 1, 1, 0, 1, 1, 0, 0, 1, 2, 1, 2, 1, 1, 0, 0, 1};
        for (int place = 0; place < due.length; place++) {
            DUE.same("length(" + place + ")", x.length(place), due[place]);
        }
        DUE.fails("length(23)", INDEX, () -> x.length(23));
        DUE.fails("length(-1)", INDEX, () -> x.length(-1));
        for (int value = 0; value < 256; value++) {
            Sourcewright y = Make.of(value, 0, 1);
            int high = value / 16;
            int low = value % 16;
            int one = high == 1 || high == 11 || high == 12 ? 2 : high > 12 ? 0 : 1;
            int branch = low < 6 ? 2 : low == 6 ? 1 : low >= 8 && low < 12 ? 3 : 0;
            DUE.same("length of " + value, y.length(0), high == 8 ? branch : one);
        }
    }
}
