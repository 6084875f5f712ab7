import java.util.NoSuchElementException;

/** "Terms", code, functions and blocks: each sentence that names an edge, in the document's order. */
public final class CodeEdgesTest {
    private static final Due DUE = new Due("CodeEdgesTest");
    private static final Class<NoSuchElementException> NONE = NoSuchElementException.class;

    public static void main(String[] args) {
        entries();
        ends();
        jumps();
        calls();
        whollyThere();
        kinds();
        doubts();
        twoTables();
        calledFunctions();
        mostFunctions();
        sharers();
        mayReturn();
        beginnings();
        walkedFromTwo();
        behindJumps();
        blockEnds();
        numbering();
        nexts();
        mostNexts();
        noBlocks();
        sizes();
        afterChanges();
        DUE.end();
    }

    private static void says(String sentence) {
        DUE.about("\"" + sentence + "\" ");
    }

    private static String kinds(int... bytes) {
        return Make.kinds(Make.of(bytes), bytes.length);
    }

    private static Sourcewright told(int[] entries, int... bytes) {
        Sourcewright made = Make.of(bytes);
        for (int entry : entries) {
            made.entry(entry);
        }
        return made;
    }

    private static int[] row(int many, int value) {
        int[] made = new int[many];
        java.util.Arrays.fill(made, value);
        return made;
    }

    private static void entries() {
        says("from the entries, the byte 0, if there is one, and those told");
        DUE.same("no bytes", new Sourcewright().functions(), 0);
        DUE.same("one byte", Make.of(0).functions(), 1);
        int[] halts = new int[120];
        Sourcewright x = told(new int[] {119, 1, 60, 59}, halts);
        DUE.same("functions", x.functions(), 5);
        StringBuilder due = new StringBuilder("-".repeat(120));
        for (int place : new int[] {0, 1, 59, 60, 119}) {
            due.setCharAt(place, 'c');
        }
        DUE.same("kinds", Make.kinds(x, 120), due.toString());
        Sourcewright y = told(new int[] {1}, 16, 0);
        y.set(0, 139);
        DUE.same("a told one alone", Make.kinds(y, 2), "-c");
    }

    private static void ends() {
        says("from one that is no end to the next one");
        for (int value = 0; value < 256; value++) {
            int h = value / 16;
            boolean isOne = h == 0 || h >= 2 && h <= 7 || h == 9 || h == 10 || h > 12 || value == 134 || value == 135 || value / 4 == 35;
            if (isOne) {
                boolean isEnd = h == 0 || h == 8 || h > 12;
                DUE.same("behind " + value, kinds(value, 0), isEnd ? "c-" : "cc");
            } else if (h != 8) {
                DUE.same("behind " + value, kinds(value, 7, 0), "coc");
                DUE.same("behind " + value + " with 8", kinds(value, 8, 0), h == 1 ? "coc" : "c--");
            }
        }
    }

    private static void jumps() {
        says("from a jump to where it goes, and, but always and by tables, to the next one");
        DUE.same("always", kinds(128, 3, 0, 0), "co-c");
        for (int value = 129; value <= 132; value++) {
            DUE.same("with a flag", kinds(value, 3, 0, 0), "cocc");
            DUE.same("with a flag, behind the bytes", kinds(value, 4, 0, 0), "coc-");
            DUE.same("to itself", kinds(value, 0, 0), "coc");
        }
        DUE.same("always, to itself", kinds(128, 0, 0), "co-");
        DUE.same("by a table", kinds(136, 4, 1, 0, 5, 0), "coo-tc");
        DUE.same("by a table of two", kinds(136, 4, 2, 0, 7, 6, 0, 0), "coo-ttcc");
    }

    private static void calls() {
        says("from a call to what it calls, and, if that may return, to the next one");
        DUE.same("it may return", kinds(133, 3, 0, 134), "cocc");
        DUE.same("it may not", kinds(133, 3, 0, 0), "co-c");
        DUE.same("it is none", kinds(133, 3, 0, 208), "co-c");
        DUE.same("the next one is what is called", kinds(133, 2, 134), "coc");
        says("what is called elsewhere does not return");
        DUE.same("behind the bytes", kinds(133, 3, 134), "co-");
        DUE.same("255", kinds(133, 255, 134), "co-");
        DUE.same("not wholly there", kinds(133, 3, 134, 16), "co--");
    }

    private static void whollyThere() {
        says("to places alone where it is wholly there");
        int[] values = {16, 128, 129, 133, 139, 176, 192};
        for (int value : values) {
            DUE.same("the next one", kinds(32, value), "c-");
            DUE.same("a jump", kinds(128, 3, 0, value), "co--");
            DUE.same("an entry", Make.kinds(told(new int[] {1}, 0, value), 2), "c-");
            DUE.same("the byte 0", kinds(value), "-");
        }
        DUE.same("two of three bytes", kinds(32, 136, 0), "c--");
        DUE.same("none needs one byte", kinds(32, 255), "cc");
        DUE.same("a table jump with m 0 too", kinds(32, 136, 0, 0), "cc--");
        DUE.same("and a cell 8", kinds(32, 176, 8), "cc-");
        Sourcewright x = Make.of(32, 16);
        DUE.same("functions have it not", x.sharers(1), 0);
        x.type(0);
        DUE.same("with one byte more", Make.kinds(x, 3), "cco");
    }

    private static void kinds() {
        says("A byte is 'c' ..., else 'o' ..., else 't' ..., else '-'");
        DUE.same("'c' and 'o'", kinds(129, 1, 0), "ccc");
        DUE.same("'c', 'o' and 't'; 'o' and 't'; 't'; 'c' and 't'", kinds(136, 1, 4, 0, 0), "ccotc");
        DUE.same("none, and 't'", kinds(136, 3, 1, 3), "cooc");
        DUE.same("none that is not walked to", kinds(0, 208), "c-");
        DUE.same("an instruction that is not walked to", kinds(0, 16, 1), "c--");
        DUE.same("a table that is not walked to", kinds(0, 136, 4, 1, 0), "c----");
        DUE.same("a table in front", Make.kinds(told(new int[] {3}, 0, 0, 0, 136, 1, 2), 6), "cttcoo");
    }

    private static void doubts() {
        says("It is in doubt if two or three of these hold");
        Sourcewright two = Make.of(129, 1, 0);
        DUE.same("begins and is another byte", two.isInDoubt(1), true);
        DUE.same("begins alone", two.isInDoubt(0), false);
        Sourcewright all = Make.of(136, 1, 4, 0, 0);
        DUE.same("begins, is another byte and of a table", all.isInDoubt(1), true);
        DUE.same("is another byte and of a table", all.isInDoubt(2), true);
        DUE.same("is of a table alone", all.isInDoubt(3), false);
        DUE.same("begins and is of a table", all.isInDoubt(4), true);
        DUE.same("doubts", all.doubts(), 3);
        DUE.same("none, and of a table", Make.of(136, 3, 1, 3).isInDoubt(3), true);
        DUE.same("is another byte alone", Make.of(16, 1, 0).isInDoubt(1), false);
        DUE.same("'-'", Make.of(0, 0).isInDoubt(1), false);
        DUE.same("no bytes", new Sourcewright().doubts(), 0);
        says("or it is another byte of two instructions");
        // 0: if 0 to 3, 2: [a( of 2 3 4, 3: a=1; of 3 4, and a table at 16
        Sourcewright other = Make.of(129, 3, 136, 16, 1, 0, 0, 0, 0, 0, 0, 0, 0, 0, 0, 0, 5);
        DUE.same("kind", other.kind(4), 'o');
        DUE.same("in doubt", other.isInDoubt(4), true);
        DUE.same("its doubts", other.doubts(), 2);
    }

    private static void twoTables() {
        says("it is one of a table");
        // 0: if 0 to 5, 2: [a( and 5: [b( by the same table at 8, which leads to 9
        Sourcewright x = Make.of(129, 5, 136, 8, 1, 137, 8, 1, 9, 0);
        DUE.same("kinds", Make.kinds(x, 10), "cocoocootc");
        DUE.same("a byte of two tables is not in doubt", x.isInDoubt(8), false);
        DUE.same("doubts", x.doubts(), 0);
        int[] most = new int[120];
        most[0] = 136;
        most[2] = 120;
        Sourcewright y = Make.of(most);
        DUE.same("a table of all 120", Make.kinds(y, 120), "coo" + "t".repeat(117));
        DUE.same("three in doubt", y.doubts(), 3);
        DUE.same("codeShare", y.codeShare(), 3f / 120f);
    }

    private static void calledFunctions() {
        says("The functions are the entries and what is called by instructions that are walked to, if something is wholly there");
        DUE.same("an entry where nothing is", told(new int[] {1}, 0, 16).functions(), 1);
        DUE.same("an entry where none is", told(new int[] {1}, 0, 208).functions(), 2);
        DUE.same("the byte 0 where nothing is", Make.of(133).functions(), 0);
        DUE.same("the byte 0 where none is", Make.of(255).functions(), 1);
        DUE.same("what is called", Make.of(133, 2, 0).functions(), 2);
        DUE.same("what is called twice", Make.of(129, 4, 133, 6, 133, 6, 0).functions(), 2);
        DUE.same("what calls itself", Make.of(133, 0).functions(), 1);
        DUE.same("what is called where nothing is", Make.of(133, 2, 16).functions(), 1);
        DUE.same("what is called behind the bytes", Make.of(133, 3, 0).functions(), 1);
        DUE.same("what a call that is not walked to calls", Make.of(0, 133, 3, 0).functions(), 1);
        DUE.same("what a call behind a call that does not return calls", Make.of(133, 4, 133, 5, 0, 0).functions(), 2);
        DUE.same("and behind one that returns", Make.of(133, 4, 133, 5, 134, 0).functions(), 3);
        says("numbered by rising places");
        Sourcewright x = told(new int[] {9, 3}, 133, 7, 133, 5, 0, 0, 0, 134, 0, 0);
        int[] due = {0, 3, 5, 7, 9};
        DUE.same("functions", x.functions(), due.length);
        for (int i = 0; i < due.length; i++) {
            DUE.same("entryOf " + i, x.entryOf(i), due[i]);
        }
    }

    private static void mostFunctions() {
        says("functions");
        // each calls the next one, two places on, and four are told at the numbers of calls, which are halts there
        int[] bytes = new int[120];
        for (int i = 0; i < 120; i++) {
            bytes[i] = i % 2 == 0 ? 133 : i + 1;
        }
        Sourcewright x = told(new int[] {1, 3, 5, 7}, bytes);
        DUE.same("64 functions", x.functions(), 64);
        DUE.same("the last", x.entryOf(63), 118);
        DUE.fails("one more", IndexOutOfBoundsException.class, () -> x.entryOf(64));
        DUE.same("the last calls nothing", x.calls(63, 63), 0);
        DUE.same("the last but one calls it", x.calls(62, 63), 1);
        DUE.same("doubts", x.doubts(), 4);
        DUE.same("keep", x.keep(), 64);
        DUE.same("all but the four are alike", x.match(63), 0);
        DUE.same("the four are alike", x.match(7), 1);
        DUE.same("compiled", x.compiled(), 124);
        DUE.same("sound", x.isSound(), true);
        DUE.same("run", Runs.told(DUE, x, 99), "c 9");
    }

    private static void sharers() {
        says("an instruction can be of several ones");
        Sourcewright x = told(new int[] {4, 2, 1, 3}, row(120, 144));
        for (int place = 0; place < 120; place++) {
            DUE.same("sharers", x.sharers(place), Math.min(place + 1, 5));
            DUE.same("functionOf", x.functionOf(place), 0);
        }
        Sourcewright y = Make.of(16, 144, 0, 0);
        DUE.same("another byte", y.sharers(1), 0);
        DUE.fails("another byte's function", NONE, () -> y.functionOf(1));
        DUE.same("not walked to", y.sharers(3), 0);
        DUE.fails("its function", NONE, () -> y.functionOf(3));
        Sourcewright z = Make.of(133, 4, 144, 0, 134);
        DUE.same("what is called is not of the caller", z.sharers(4), 1);
        DUE.same("it has its own function", z.functionOf(4), 1);
        DUE.same("but if it is gone on to, it is", Make.of(133, 3, 144, 134).sharers(3), 2);
        DUE.same("an instruction that is jumped to by both", told(new int[] {3}, 128, 5, 0, 128, 5, 0).sharers(5), 2);
    }

    private static void mayReturn() {
        says("It may return if a return is among them; this is the least that holds of all together");
        DUE.same("a return", Make.of(134).mayReturn(0), true);
        DUE.same("a halt", Make.of(0).mayReturn(0), false);
        DUE.same("itself first", Make.of(133, 0, 134).mayReturn(0), false);
        DUE.same("itself on one way", Make.of(130, 4, 133, 0, 134).mayReturn(0), true);
        Sourcewright ring = Make.of(133, 3, 134, 133, 6, 134, 133, 0, 134);
        for (int i = 0; i < 3; i++) {
            DUE.same("three in a ring, " + i, ring.mayReturn(i), false);
        }
        Sourcewright open = Make.of(133, 3, 134, 133, 6, 134, 130, 10, 133, 0, 134);
        for (int i = 0; i < 3; i++) {
            DUE.same("one of the ring has another way, " + i, open.mayReturn(i), true);
        }
        Sourcewright x = Make.of(133, 3, 134, 0);
        DUE.same("the return is behind what does not return", x.mayReturn(0), false);
        x.set(3, 134);
        DUE.same("and now it does", x.mayReturn(0), true);
    }

    private static void beginnings() {
        says("The first instruction of a function, each where a jump goes, ... begins a block");
        DUE.same("the first", Make.of(144, 144, 0).blocks(0), 1);
        Sourcewright first = Make.of(144, 144, 0);
        first.entry(1);
        DUE.same("another function's first begins none", first.blocks(0), 1);
        DUE.same("a jump into the middle", Make.of(144, 144, 144, 128, 1).blocks(0), 2);
        DUE.same("a jump to the first", Make.of(144, 144, 144, 128, 0).blocks(0), 1);
        DUE.same("a jump to itself", Make.of(144, 128, 1).blocks(0), 2);
        DUE.same("a table into the middle", Make.of(144, 144, 136, 5, 1, 1).blocks(0), 2);
        DUE.same("a call of the middle begins none", Make.of(129, 5, 144, 144, 0, 133, 3).blocks(0), 3);
    }

    private static void walkedFromTwo() {
        says("each that is walked to from two others or more in it, begins a block");
        // 0: if 0 to 3, 2: a=32; and 3: a=a; both go on to 4
        Sourcewright two = Make.of(129, 3, 16, 32, 144, 0);
        DUE.same("from two", two.blocks(0), 4);
        DUE.same("the block", two.first(0, 3), 4);
        DUE.same("its size", two.size(0, 3), 2);
        // the same, and an entry at 3: its function goes to 4 from one alone
        two.entry(3);
        DUE.same("from one, in another function", two.blocks(1), 1);
        DUE.same("from two still", two.blocks(0), 4);
    }

    private static void behindJumps() {
        says("so does that behind a jump");
        DUE.same("with a flag", Make.of(129, 0, 144, 0).blocks(0), 2);
        // 0: if 0 to 3, 2: a=-128; 3: jump to 113 and 4: a~b; behind both stands 5, to which 4 alone goes on
        Sourcewright always = Make.of(129, 3, 16, 128, 113, 0);
        DUE.same("always", always.blocks(0), 4);
        DUE.same("it is 5", always.first(0, 3), 5);
        // 0: if 0 to 3, 2: a=-117; 4: . 3: [d( by 8, one place, 9: . so nothing goes on to 6, behind the table jump
        DUE.same("what is not of the function begins none", Make.of(129, 3, 16, 139, 8, 1, 0, 0, 9, 0).blocks(0), 4);
        DUE.same("a jump of another function", told(new int[] {3}, 129, 4, 16, 128, 4, 0).blocks(0), 3);
        DUE.same("behind a call nothing begins", Make.of(133, 4, 144, 0, 134).blocks(0), 1);
    }

    private static void blockEnds() {
        says("A block has instructions one behind the other, as long as the last one leads to just one other that begins none");
        DUE.same("to the end of the bytes", Make.of(144, 144, 144).size(0, 0), 3);
        DUE.same("to what is not wholly there", Make.of(144, 144, 16).size(0, 0), 2);
        DUE.same("to none, which it has", Make.of(144, 144, 208, 144).size(0, 0), 3);
        DUE.same("to a halt, which it has", Make.of(144, 144, 0, 144).size(0, 0), 3);
        DUE.same("to a return, which it has", Make.of(144, 144, 134, 144).size(0, 0), 3);
        DUE.same("to a jump, which it has", Make.of(144, 144, 128, 4).size(0, 0), 3);
        DUE.same("past a call", Make.of(144, 133, 4, 0, 134).size(0, 0), 3);
        DUE.same("to a call that does not return", Make.of(144, 133, 4, 0, 0).size(0, 0), 2);
        DUE.same("to one that begins a block", Make.of(144, 144, 129, 1, 0).size(0, 0), 1);
        DUE.same("a jump to the next one ends it", Make.of(144, 128, 3, 144, 0).size(0, 0), 2);
    }

    private static void numbering() {
        says("Blocks are numbered from 0 by the places of their first instructions");
        // the entry stands behind all others: 7 to 4, 4 to 2, 2 to 0
        Sourcewright x = told(new int[] {6}, 144, 0, 128, 0, 128, 2, 128, 4);
        int[] due = {0, 2, 4, 6};
        DUE.same("blocks", x.blocks(1), 4);
        for (int i = 0; i < 4; i++) {
            DUE.same("first " + i, x.first(1, i), due[i]);
            DUE.same("order " + i, x.order(1, i), 3 - i);
        }
        DUE.fails("the entry's has none nearest", NONE, () -> x.nearest(1, 3));
        DUE.same("nearest", x.nearest(1, 0), 1);
    }

    private static void nexts() {
        says("The next ones of a block");
        int[][] none = {{0}, {134}, {208}, {133, 2, 0}, {133, 9}, {135}, {136, 0, 0, 0}};
        for (int[] bytes : none) {
            Sourcewright x = Make.of(bytes);
            DUE.same("none behind " + bytes[0], x.nexts(0, 0), 0);
            DUE.fails("next(0, 0, 0)", NONE, () -> x.next(0, 0, 0));
        }
        Sourcewright one = Make.of(129, 3, 134, 133, 2, 0);
        DUE.same("a call that returns has one", one.size(0, 2), 2);
        Sourcewright two = Make.of(129, 3, 0, 0);
        DUE.same("where it goes", two.next(0, 0, 0), 2);
        DUE.same("and then the next instruction", two.next(0, 0, 1), 1);
        DUE.same("with a flag two", two.nexts(0, 0), 2);
        Sourcewright same = Make.of(129, 2, 0);
        DUE.same("two even to the same", same.nexts(0, 0), 2);
        DUE.same("the first of the same", same.next(0, 0, 0), 1);
        DUE.same("the second of the same", same.next(0, 0, 1), 1);
        DUE.same("always one", Make.of(128, 0).nexts(0, 0), 1);
        DUE.same("without a jump one", Make.of(144, 129, 1, 0).nexts(0, 0), 1);
    }

    private static void mostNexts() {
        says("for a table one for each of its bytes, by rising ones, those behind the bytes too");
        // a table of all bytes: 136, 0 and 120 themselves, then halts' zeros, which lead to the jump
        int[] bytes = new int[120];
        bytes[0] = 136;
        bytes[2] = 120;
        bytes[119] = 3;
        Sourcewright x = Make.of(bytes);
        DUE.same("nexts", x.nexts(0, 0), 120);
        DUE.same("136 is behind the bytes", x.next(0, 0, 0), -1);
        DUE.same("0", x.next(0, 0, 1), 0);
        DUE.same("120 is behind the bytes", x.next(0, 0, 2), -1);
        DUE.same("0 again", x.next(0, 0, 118), 0);
        DUE.same("3", x.next(0, 0, 119), 1);
        DUE.fails("one more", NONE, () -> x.next(0, 0, 120));
        DUE.same("steps back are no leaps", x.leaps(0), 0);
        DUE.same("nor does the head meet", x.isMeeting(0, 0), false);
        DUE.same("one step is no meeting", x.isMeeting(0, 1), false);
        DUE.same("one loop", x.depth(0, 0), 1);
        DUE.same("source", x.source(0), 2 + 3 + 119 + 2 + 117 * 3 + 1 + 1 + 1);
    }

    private static void noBlocks() {
        says("A next one behind the bytes, or an instruction that is not wholly there, is no block, told as -1");
        DUE.same("straight, behind the bytes", Make.of(144).next(0, 0, 0), -1);
        DUE.same("straight, not wholly there", Make.of(144, 16).next(0, 0, 0), -1);
        DUE.same("always, behind the bytes", Make.of(128, 2).next(0, 0, 0), -1);
        DUE.same("always, not wholly there", Make.of(128, 2, 16).next(0, 0, 0), -1);
        DUE.same("always, 255", Make.of(128, 255).next(0, 0, 0), -1);
        DUE.same("with a flag, where it goes", Make.of(129, 3, 0).next(0, 0, 0), -1);
        DUE.same("with a flag, the next instruction", Make.of(129, 0).next(0, 0, 1), -1);
        DUE.same("behind a call", Make.of(129, 3, 134, 133, 2).next(0, 2, 0), -1);
        Sourcewright table = Make.of(136, 3, 3, 6, 5, 255, 16);
        DUE.same("of a table, not wholly there", table.next(0, 0, 0), -1);
        DUE.same("of a table, none", table.next(0, 0, 1), 1);
        DUE.same("of a table, behind the bytes", table.next(0, 0, 2), -1);
    }

    private static void sizes() {
        says("A block has instructions one behind the other");
        Sourcewright full = Make.of(row(120, 144));
        DUE.same("one block of all", full.blocks(0), 1);
        DUE.same("its size", full.size(0, 0), 120);
        DUE.same("its mean", full.meanBlock(0), 120.0);
        int[] jumps = new int[120];
        for (int i = 0; i < 60; i++) {
            jumps[2 * i] = 128;
            jumps[2 * i + 1] = 2 * i + 2;
        }
        Sourcewright x = Make.of(jumps);
        DUE.same("60 blocks", x.blocks(0), 60);
        DUE.same("the last begins", x.first(0, 59), 118);
        DUE.same("and goes nowhere", x.next(0, 59, 0), -1);
        DUE.same("each has one", x.meanBlock(0), 1.0);
        DUE.same("their source", Make.source(x, 0), "$");
        DUE.same("and bytes", Make.compiled(x), "128 255");
    }

    private static void afterChanges() {
        DUE.about("after a change ");
        Sourcewright x = Make.of(134);
        DUE.same("a return", x.mayReturn(0), true);
        x.set(0, 0);
        DUE.same("a halt", x.mayReturn(0), false);
        x.set(0, 134);
        DUE.same("a return again", x.mayReturn(0), true);
        x.wipe();
        x.type(16);
        DUE.same("no function", x.functions(), 0);
        DUE.same("no code", x.kind(0), '-');
        x.type(0);
        DUE.same("a function", x.functions(), 1);
        DUE.same("its code", Make.kinds(x, 2), "co");
        x.set(0, 0);
        DUE.same("the other byte is none any more", Make.kinds(x, 2), "c-");
        x.entry(1);
        DUE.same("but an entry", Make.kinds(x, 2), "cc");
        x.set(0, 16);
        DUE.same("in doubt", x.doubts(), 1);
        x.wipe();
        x.type(0);
        x.type(0);
        DUE.same("the entry is away", x.functions(), 1);
        DUE.same("nothing is in doubt", x.doubts(), 0);
    }
}
