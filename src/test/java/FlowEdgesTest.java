import java.util.NoSuchElementException;

/** "Terms", the order, loops, meetings, leaps and what is live: each sentence that names an edge, in the document's order. */
public final class FlowEdgesTest {
    private static final Due DUE = new Due("FlowEdgesTest");
    private static final Class<NoSuchElementException> NONE = NoSuchElementException.class;

    public static void main(String[] args) {
        aheadOfItself();
        nearest();
        nearestOfMany();
        nearestByLeap();
        behindTables();
        order();
        backOrLeap();
        leaps();
        heads();
        depths();
        deepest();
        meetings();
        notMeetings();
        uses();
        noUses();
        becomes();
        ways();
        liveAfterChanges();
        longestWays();
        idle();
        neverIdle();
        DUE.end();
    }

    private static void says(String sentence) {
        DUE.about("\"" + sentence + "\" ");
    }

    private static String nearest(Sourcewright x, int function) {
        StringBuilder text = new StringBuilder();
        for (int block = 0; block < x.blocks(function); block++) {
            try {
                text.append(x.nearest(function, block));
            } catch (NoSuchElementException e) {
                text.append('-');
            }
            text.append(' ');
        }
        return text.toString();
    }

    private static String orders(Sourcewright x, int function) {
        StringBuilder text = new StringBuilder();
        for (int block = 0; block < x.blocks(function); block++) {
            text.append(x.order(function, block)).append(' ');
        }
        return text.toString();
    }

    /** A digit for each block's loops, with H behind that of a head, and M behind that of a meeting. */
    private static String shape(Sourcewright x, int function) {
        StringBuilder text = new StringBuilder();
        for (int block = 0; block < x.blocks(function); block++) {
            text.append(x.depth(function, block)).append(x.isHead(function, block) ? "H" : "").append(x.isMeeting(function, block) ? "M" : "");
            text.append(' ');
        }
        return text.toString();
    }

    private static void aheadOfItself() {
        says("each way from the entry's block to that goes through it, so also of itself");
        Sourcewright x = Make.of(128, 0);
        DUE.same("a step to itself is back", shape(x, 0), "1H ");
        DUE.same("and no leap", x.leaps(0), 0);
        Sourcewright y = Make.of(129, 4, 144, 0, 145, 128, 4);
        DUE.same("behind a choice too", shape(y, 0), "0 0 1H ");
        DUE.fails("the entry's is unlike none", NONE, () -> x.nearest(0, 0));
    }

    private static void nearest() {
        says("the nearest one, of those unlike it, is the one that all others are ahead of");
        // a row: 0, 2, 4
        DUE.same("in a row", nearest(Make.of(129, 0, 129, 0, 0), 0), "- 0 1 ");
        // 0: if 0 to 5, 2: >a; to 6, 5: >b; 6: .
        DUE.same("a choice that meets", nearest(Make.of(129, 5, 144, 128, 6, 145, 0), 0), "- 0 0 0 ");
        // 0: if 0 to 8, 2: if 0 to 6, 4: >a; 5: >b; (to 6) 6: >c; 7: >d; 8: .
        DUE.same("one in the other", nearest(Make.of(129, 8, 129, 6, 144, 145, 146, 147, 0), 0), "- 0 1 1 0 ");
        // round the loop back to the head: 0: >a; 1: if 0 to 5, 3: jump to 1, 5: .
        DUE.same("a loop", nearest(Make.of(144, 129, 5, 128, 1, 0), 0), "- 0 1 1 ");
        // the entry's block stands behind: 4: if 0 to 0, 6: jump to 2; 0 and 2 halt
        Sourcewright x = Make.of(0, 0, 0, 0, 129, 0, 128, 2);
        x.entry(4);
        DUE.same("the entry's is not the first", nearest(x, 1), "2 3 - 2 ");
    }

    private static void nearestOfMany() {
        says("the nearest one");
        int[] row = new int[120];
        for (int i = 0; i < 60; i++) {
            row[2 * i] = 129;
            row[2 * i + 1] = 118;
        }
        // each goes to 118 too, so the last one's nearest is the first
        Sourcewright x = Make.of(row);
        DUE.same("60 blocks", x.blocks(0), 60);
        for (int block = 1; block < 59; block++) {
            DUE.same("nearest of " + block, x.nearest(0, block), block - 1);
        }
        DUE.same("the one that all go to", x.nearest(0, 59), 0);
        DUE.same("it is a meeting", x.isMeeting(0, 59), true);
        DUE.same("and a head", x.isHead(0, 59), true);
        DUE.same("sound", x.isSound(), true);
    }

    private static void nearestByLeap() {
        says("the one that all others are ahead of");
        // 0: if 0 to 4, 2: jump to 8, 4: if 0 to 8, 6: jump to 10, 8: if 0 to 2, 10: . -- to 8 leads a leap from 2, past 4
        Sourcewright x = Make.of(129, 4, 128, 8, 129, 8, 128, 10, 129, 2, 0);
        DUE.same("orders", orders(x, 0), "0 5 1 2 3 4 ");
        DUE.same("nearest", nearest(x, 0), "- 0 0 2 0 0 ");
        DUE.same("leaps", x.leaps(0), 1);
        DUE.same("sound", x.isSound(), true);
    }

    private static void behindTables() {
        says("for a table one for each of its bytes");
        // 0: if 0 to 4, 2: jump to 11, 4: [a( by 7, one place, 9; what stands behind the table, 11, is none of its places
        Sourcewright x = Make.of(129, 4, 128, 11, 136, 7, 1, 9, 11, 0, 0, 0);
        DUE.same("orders", orders(x, 0), "0 1 3 4 2 ");
        DUE.same("nearest", nearest(x, 0), "- 0 0 2 1 ");
        DUE.same("shape", shape(x, 0), "0 0 0 0 0 ");
        // the same with 0 behind the table, which is the head of a loop without it
        DUE.same("no way into a loop", shape(Make.of(129, 4, 128, 0, 136, 7, 1, 9, 0, 0), 0), "1H 1 0 0 ");
    }

    private static void order() {
        says("deeper first, each block once; the order is the reverse of that in which blocks are left");
        DUE.same("one", orders(Make.of(0), 0), "0 ");
        // 0: if 0 to 3, 2: . 3: .
        DUE.same("where it goes is walked to first, so it is behind", orders(Make.of(129, 3, 0, 0), 0), "0 1 2 ");
        // a table of 6, 7, 8 halts: the first one walked to is the last
        DUE.same("the table's places", orders(Make.of(136, 3, 3, 6, 7, 8, 0, 0, 0), 0), "0 3 2 1 ");
        DUE.same("the table's places, falling", orders(Make.of(136, 3, 3, 8, 7, 6, 0, 0, 0), 0), "0 1 2 3 ");
        DUE.same("a place that comes twice counts once", orders(Make.of(136, 3, 3, 7, 6, 7, 0, 0), 0), "0 1 2 ");
        DUE.same("what is none is gone past", orders(Make.of(136, 3, 3, 255, 7, 6, 0, 0), 0), "0 1 2 ");
        // 0: if 0 to 5, 2: >a; 3: jump to 5, 5: . -- 5 is left first, and behind 2 though it is walked to first
        DUE.same("deeper first", orders(Make.of(129, 5, 144, 128, 5, 0), 0), "0 1 2 ");
        DUE.same("a circle", orders(Make.of(128, 2, 128, 0), 0), "0 1 ");
    }

    private static void backOrLeap() {
        says("A step from a block to one that is not behind it in the order is back, if that is ahead of the block on all ways, otherwise it is a leap");
        Sourcewright back = Make.of(144, 129, 5, 128, 1, 0);
        DUE.same("back", back.leaps(0), 0);
        DUE.same("it has a head", shape(back, 0), "0 1H 1 0 ");
        DUE.same("its sign", Make.source(back, 0), ">a;L{=(.:^1;)}");
        Sourcewright leap = Make.of(129, 4, 128, 4, 130, 2, 0);
        DUE.same("a leap", leap.leaps(0), 1);
        DUE.same("it has no head", shape(leap, 0), "0 0M 0 0 ");
        // into a circle from outside: 0: if 0 to 7, 2: >a; 3: if 0 to 9, 5: jump to 2, 7: jump to 3, 9: .
        Sourcewright into = Make.of(129, 7, 144, 129, 9, 128, 2, 128, 3, 0);
        DUE.same("its order", orders(into, 0), "0 4 2 3 1 5 ");
        DUE.same("a leap into a circle", into.leaps(0), 1);
    }

    private static void leaps() {
        says("leaps, by several places of a table apart");
        // 0: if 0 to 7, 2: [a( of two places, 7 and 7, at 5; 7: jump to 2
        DUE.same("two", Make.of(129, 7, 136, 5, 2, 7, 7, 128, 2).leaps(0), 2);
        DUE.same("one", Make.of(129, 7, 136, 5, 1, 7, 7, 128, 2).leaps(0), 1);
        DUE.same("none", Make.of(129, 7, 136, 5, 1, 9, 7, 128, 2, 0).leaps(0), 0);
        // the same with a table of 100 places
        int[] bytes = new int[112];
        java.util.Arrays.fill(bytes, 107);
        int[] head = {129, 107, 136, 7, 100, 0, 0};
        System.arraycopy(head, 0, bytes, 0, head.length);
        bytes[107] = 128;
        bytes[108] = 2;
        Sourcewright x = Make.of(bytes);
        DUE.same("100", x.leaps(0), 100);
        DUE.same("one block", Make.of(0).leaps(0), 0);
        Sourcewright two = Make.of(129, 4, 128, 4, 130, 2, 0);
        two.entry(6);
        for (int i = 0; i < 2; i++) {
            DUE.same("of one function", two.leaps(0), 1);
            DUE.same("and of the other", two.leaps(1), 0);
        }
    }

    private static void heads() {
        says("A block to which a step back goes is the head of a loop");
        DUE.same("always", shape(Make.of(144, 128, 0), 0), "1H ");
        DUE.same("with a flag", shape(Make.of(144, 129, 0, 0), 0), "1H 0 ");
        DUE.same("with a flag and the next one", shape(Make.of(128, 4, 128, 4, 129, 2), 0), "0 1 1H ");
        DUE.same("by a table", shape(Make.of(144, 136, 4, 1, 0), 0), "1H ");
        DUE.same("to nowhere", shape(Make.of(144, 128, 3), 0), "0 ");
        // the entry's block as a head, from behind it in the order alone
        Sourcewright x = Make.of(144, 128, 3, 128, 0);
        x.entry(3);
        DUE.same("of one function", shape(x, 0), "1H 1 ");
        DUE.same("and of the other", shape(x, 1), "1 1H ");
    }

    private static void depths() {
        says("which has the head and all from which the foot of a step back can be reached without the head");
        // 0: >a; 1: if 0 to 5, 3: jump to 1, 5: .
        DUE.same("what is ahead of and behind a loop is not in it", shape(Make.of(144, 129, 5, 128, 1, 0), 0), "0 1H 1 0 ");
        // two feet: 0: >a; 1: if 0 to 0, 3: if below to 0, 5: .
        DUE.same("loops with the same head as one", shape(Make.of(144, 129, 0, 131, 0, 0), 0), "1H 1 0 ");
        // one in the other: 0: a~b; 1: if 0 to 9, 3: >a; 4: if not 0 to 3, 6: jump to 1, 9: .
        DUE.same("one in the other", shape(Make.of(113, 129, 9, 144, 130, 3, 128, 1, 0, 0), 0), "0 1H 2H 1 0 ");
        // a choice in a loop whose one way leaves: 0: if 0 to 4, 2: jump to 6, 4: jump to 0, 6: .
        DUE.same("the way that leaves", shape(Make.of(129, 4, 128, 6, 128, 0, 0), 0), "1H 0 1 0 ");
        // 0: if 0 to 8, 2: if 0 to 6, 4: jump to 2, 6: jump to 0, 8: . -- from 4 the foot 6 is reached by the step back to 2 alone
        DUE.same("a foot that is reached by a step back", shape(Make.of(129, 8, 129, 6, 128, 2, 128, 0, 0), 0), "1H 2H 2 1 0 ");
        // two loops, one behind the other: 0: if 0 to 0, 2: if 0 to 2, 4: .
        DUE.same("one behind the other", shape(Make.of(129, 0, 129, 2, 0), 0), "1H 1H 0 ");
        DUE.same("no loop", shape(Make.of(129, 2, 0), 0), "0 0M ");
        // a leap makes no loop
        DUE.same("a leap", shape(Make.of(129, 4, 128, 4, 130, 2, 0), 0), "0 0M 0 0 ");
    }

    /** 40 outs, each of them the head of a loop whose foot is one of the 40 jumps behind, the last head's the first. */
    private static void deepest() {
        says("in how many loops a block is");
        int[] bytes = new int[120];
        StringBuilder due = new StringBuilder();
        for (int i = 0; i < 40; i++) {
            bytes[i] = 144;
            bytes[40 + 2 * i] = 129;
            bytes[41 + 2 * i] = 39 - i;
            due.append("L{>a;");
        }
        for (int i = 0; i < 40; i++) {
            due.append("=(^").append(39 - i).append(";:");
        }
        due.append('$').append(")".repeat(40)).append("}".repeat(40));
        Sourcewright x = Make.of(bytes);
        DUE.same("blocks", x.blocks(0), 79);
        for (int block = 0; block < 79; block++) {
            DUE.same("depth " + block, x.depth(0, block), block < 40 ? block + 1 : 79 - block);
            DUE.same("isHead " + block, x.isHead(0, block), block < 40);
        }
        DUE.same("source", Make.source(x, 0), due.toString());
        DUE.same("leaps", x.leaps(0), 0);
        DUE.same("sound", x.isSound(), true);
    }

    private static void meetings() {
        says("A block is a meeting, if two steps or more that are neither back nor leaps go to it, steps by several places of a table counted apart");
        DUE.same("two places of a table", shape(Make.of(136, 3, 2, 5, 5, 0), 0), "0 0M ");
        DUE.same("one place of a table", shape(Make.of(136, 3, 1, 5, 5, 0), 0), "0 0 ");
        DUE.same("both steps of a jump with a flag", shape(Make.of(132, 2, 0), 0), "0 0M ");
        DUE.same("of two blocks", shape(Make.of(129, 3, 144, 0), 0), "0 0 0M ");
        // a head to which two steps go from ahead: 0: if 0 to 2, 2: >a; 3: if 0 to 2, 5: .
        DUE.same("a head", shape(Make.of(129, 2, 144, 129, 2, 0), 0), "0 1HM 0 ");
        DUE.same("three places", shape(Make.of(136, 3, 3, 6, 6, 6, 0), 0), "0 0M ");
    }

    private static void notMeetings() {
        says("neither back nor leaps");
        DUE.same("one step and one back", shape(Make.of(144, 129, 1, 0), 0), "0 1H 0 ");
        DUE.same("two steps back", shape(Make.of(144, 129, 0, 131, 0, 0), 0), "1H 1 0 ");
        // 0: if 0 to 4, 2: jump to 4, 4: if not 0 to 2, 6: . -- to 4 go one step and one leap, to 2 two steps
        Sourcewright x = Make.of(129, 4, 128, 4, 130, 2, 0);
        DUE.same("one step and one leap", x.isMeeting(0, 2), false);
        DUE.same("two steps", x.isMeeting(0, 1), true);
        DUE.same("steps to nowhere meet nothing", shape(Make.of(129, 99), 0), "0 ");
        DUE.same("the entry's block, to which both steps go", shape(Make.of(129, 2, 129, 0, 128, 0), 0), "1H 1M 1 ");
        DUE.same("the entry's block", Make.of(136, 3, 2, 0, 0).isMeeting(0, 0), false);
    }

    private static int live(int... bytes) {
        return Make.of(bytes).live(0, 0);
    }

    private static void uses() {
        says("a copy, an output, a store, arithmetic, a comparison, a table use registers; a call and a return use all four");
        DUE.same("a copy uses s, not d", live(36, 0), 1);
        DUE.same("a copy of itself", live(37, 0), 2);
        DUE.same("an output", live(147, 0), 8);
        DUE.same("a store", live(194, 0, 0), 4);
        DUE.same("arithmetic uses both", live(54, 0), 2 + 4);
        DUE.same("a division uses both", live(97, 0), 1 + 2);
        DUE.same("a comparison uses both", live(126, 0), 4 + 8);
        DUE.same("a table", live(138, 3, 1, 255), 4);
        DUE.same("a call that returns", live(133, 2, 134), 15);
        DUE.same("a call that does not", live(133, 2, 0), 15);
        DUE.same("a call of nothing", live(133, 99), 15);
        DUE.same("a return", live(134), 15);
    }

    private static void noUses() {
        says("a step to -1 uses none");
        DUE.same("behind the bytes", live(32 + 4), 1);
        DUE.same("not wholly there", live(16, 1, 16), 0);
        DUE.same("a jump", live(128, 255), 0);
        DUE.same("a jump with a flag", live(129, 255), 0);
        DUE.same("a table, but itself", live(136, 3, 1, 255), 1);
        DUE.same("a halt", live(0), 0);
        DUE.same("none", live(208), 0);
        DUE.same("a number", live(16, 1, 0), 0);
        DUE.same("an input", live(160, 0), 0);
        DUE.same("a cell read", live(176, 1, 0), 0);
    }

    private static void becomes() {
        says("it is used before it becomes something else; a call makes all four become something");
        DUE.same("a number", live(17, 1, 134), 15 - 2);
        DUE.same("a copy", live(33, 134), 15 - 1);
        DUE.same("an input", live(163, 134), 15 - 8);
        DUE.same("a cell read", live(178, 0, 134), 15 - 4);
        DUE.same("arithmetic uses what it makes", live(49, 134), 15);
        DUE.same("a comparison makes none", live(113, 134), 15);
        DUE.same("a store makes none", live(192, 0, 134), 15);
        DUE.same("an output makes none", live(144, 134), 15);
        // 0: a=1; 2: (6); 4: >a; 5: . 6: ,
        Sourcewright x = Make.of(16, 1, 133, 6, 144, 0, 134);
        DUE.same("ahead of a call", x.live(0, 2), 15);
        DUE.same("behind it", x.live(0, 4), 1);
        // 0: if 0 to 3, 2: >a; -- 3: a=1; 5: >a; .
        DUE.same("on one way before, on the other not", live(129, 3, 144, 16, 1, 144, 0), 1);
        DUE.same("on both ways it becomes something first", live(129, 4, 16, 2, 16, 1, 144, 0), 0);
    }

    private static void ways() {
        says("on some way from it within the function");
        // 0: (3); 2: . 3: >a; 4: a=1; 6: ,  -- what the called one uses is not looked at, but the call uses all
        Sourcewright x = Make.of(16, 1, 0, 16, 2, 134);
        x.entry(3);
        DUE.same("of its own function", x.live(0, 0), 0);
        DUE.same("of the other one", x.live(1, 3), 14);
        DUE.fails("which is not of the first", NONE, () -> x.live(0, 3));
        DUE.fails("another byte", NONE, () -> x.live(0, 1));
        Sourcewright shared = Make.of(128, 3, 0, 145, 0);
        shared.entry(3);
        DUE.same("of both, for one", shared.live(0, 3), 2);
        DUE.same("of both, for the other", shared.live(1, 3), 2);
        DUE.same("round a loop", live(16, 1, 144, 128, 2), 0);
        DUE.same("round a loop, ahead of the jump", Make.of(16, 1, 144, 128, 2).live(0, 3), 1);
    }

    /** From 0 to 118, and from each to the place two ahead of it, down to 2. */
    private static int[] backwards(int last) {
        int[] made = new int[120];
        for (int place = 4; place < 120; place += 2) {
            made[place] = 128;
            made[place + 1] = place - 2;
        }
        made[0] = 128;
        made[1] = 118;
        made[2] = last;
        return made;
    }

    private static void liveAfterChanges() {
        says("Live");
        Sourcewright x = Make.of(144, 16, 1, 144, 0);
        DUE.same("used", x.live(0, 0), 1);
        x.set(0, 0);
        DUE.same("a halt uses none", x.live(0, 0), 0);
        x.set(0, 145);
        x.set(3, 147);
        DUE.same("others are used", x.live(0, 0), 2 + 8);
        DUE.same("and it is idle", x.isIdle(0, 1), true);
        Sourcewright loop = Make.of(144, 128, 0);
        DUE.same("round a loop", loop.live(0, 1), 1);
        loop.set(0, 145);
        DUE.same("round it after a change", loop.live(0, 1), 2);
        loop.set(0, 0);
        DUE.same("without it", loop.live(0, 0), 0);
    }

    private static void longestWays() {
        says("on some way from it");
        Sourcewright out = Make.of(backwards(146));
        DUE.same("the first", out.live(0, 0), 4);
        DUE.same("the next", out.live(0, 118), 4);
        DUE.same("the last", out.live(0, 3), 0);
        DUE.same("blocks", out.blocks(0), 60);
        DUE.same("the last one's order", out.order(0, 1), 59);
        DUE.same("source", Make.source(out, 0), ">c;.");
        Sourcewright back = Make.of(backwards(134));
        DUE.same("it may return", back.mayReturn(0), true);
        int[] round = backwards(128);
        round[3] = 118;
        Sourcewright loop = Make.of(round);
        DUE.same("all in the loop", loop.depth(0, 59), 1);
        DUE.same("the head", loop.isHead(0, 59), true);
        DUE.same("the foot", loop.depth(0, 1), 1);
        DUE.same("but the first", loop.depth(0, 0), 0);
        // 40 functions, each of which calls one in front of it, and the first one the last
        int[] calls = new int[120];
        for (int i = 0; i < 40; i++) {
            calls[3 * i] = 133;
            calls[3 * i + 1] = i == 0 ? 117 : 3 * i - 3;
            calls[3 * i + 2] = 134;
        }
        DUE.same("all wait for one another", Make.of(calls).mayReturn(0), false);
        calls[3] = 134;
        Sourcewright x = Make.of(calls);
        DUE.same("functions", x.functions(), 40);
        for (int function = 0; function < 40; function++) {
            DUE.same("mayReturn " + function, x.mayReturn(function), true);
        }
    }

    private static void idle() {
        says("idle if it is a number, a copy, a cell read, or arithmetic that is no division, and the register it makes is not live behind it, on any way");
        DUE.same("behind the bytes", Make.of(16, 1).isIdle(0, 0), true);
        DUE.same("the same one made anew", Make.of(16, 1, 16, 2, 144, 0).isIdle(0, 0), true);
        DUE.same("the second", Make.of(16, 1, 16, 2, 144, 0).isIdle(0, 2), false);
        DUE.same("used by the one that makes it anew", Make.of(16, 1, 32, 144, 0).isIdle(0, 0), false);
        DUE.same("used on one of two ways", Make.of(16, 1, 129, 5, 0, 144, 0).isIdle(0, 0), false);
        DUE.same("used on none of two ways", Make.of(16, 1, 129, 5, 0, 145, 0).isIdle(0, 0), true);
        DUE.same("used on one place of a table", Make.of(17, 1, 136, 5, 2, 7, 8, 0, 145, 0).isIdle(0, 0), false);
        DUE.same("ahead of a return", Make.of(16, 1, 134).isIdle(0, 0), false);
        DUE.same("ahead of a call", Make.of(16, 1, 133, 5, 0, 0).isIdle(0, 0), false);
        DUE.same("a copy of itself", Make.of(32, 0).isIdle(0, 0), true);
        DUE.same("round a loop it uses itself", Make.of(48, 128, 0).isIdle(0, 0), false);
        DUE.same("round a loop that makes it anew", Make.of(16, 1, 128, 0).isIdle(0, 0), true);
        int[] values = {32 + 6, 48 + 6, 64 + 6, 80 + 6};
        for (int value : values) {
            DUE.same("made in b, " + value, Make.of(value, 144, 146, 147, 0).isIdle(0, 0), true);
            DUE.same("made in b and used, " + value, Make.of(value, 145, 0).isIdle(0, 0), false);
        }
        DUE.same("a number in d", Make.of(19, 1, 144, 145, 146, 0).isIdle(0, 0), true);
        DUE.same("a cell read into d", Make.of(179, 1, 147, 0).isIdle(0, 0), false);
    }

    private static void neverIdle() {
        says("idle if it is a number, a copy, a cell read, or arithmetic that is no division");
        DUE.same("a division", Make.of(97, 0).isIdle(0, 0), false);
        DUE.same("a comparison", Make.of(113, 0).isIdle(0, 0), false);
        DUE.same("an input", Make.of(160, 0).isIdle(0, 0), false);
        DUE.same("a store", Make.of(192, 0, 0).isIdle(0, 0), false);
        DUE.same("none", Make.of(208).isIdle(0, 0), false);
        DUE.same("a cell read of cell 8, which is none", Make.of(176, 8, 0).isIdle(0, 0), false);
        DUE.same("a halt", Make.of(0).isIdle(0, 0), false);
        DUE.same("a jump", Make.of(128, 2).isIdle(0, 0), false);
    }
}
