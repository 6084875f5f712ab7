import java.util.NoSuchElementException;

/** Promises 17 to 27: blocks, their order, loops, meetings and leaps. */
public final class BlocksTest {
    private static final Due DUE = new Due("BlocksTest");
    private static final Class<IndexOutOfBoundsException> INDEX = IndexOutOfBoundsException.class;
    private static final Class<NoSuchElementException> NONE = NoSuchElementException.class;

    public static void main(String[] args) {
        straight();
        choice();
        behindJumps();
        walkedToTwice();
        tables();
        callsInBlocks();
        entryNotFirst();
        loops();
        leaps();
        meetings();
        wrong();
        DUE.end();
    }

    /** One row for each block: first, size, nexts, nearest (- for the entry's), order, H for a head, depth, M for a meeting. */
    private static String told(Sourcewright x, int function) {
        StringBuilder text = new StringBuilder();
        for (int block = 0; block < x.blocks(function); block++) {
            text.append(block == 0 ? "" : " ").append(x.first(function, block)).append('/').append(x.size(function, block)).append('/');
            for (int i = 0; i < x.nexts(function, block); i++) {
                text.append(i == 0 ? "" : ",").append(x.next(function, block, i));
            }
            text.append('/').append(nearest(x, function, block)).append('/').append(x.order(function, block));
            text.append(x.isHead(function, block) ? "H" : "").append(x.depth(function, block));
            text.append(x.isMeeting(function, block) ? "M" : "");
        }
        return text.toString();
    }

    private static String nearest(Sourcewright x, int function, int block) {
        try {
            return "" + x.nearest(function, block);
        } catch (NoSuchElementException e) {
            return "-";
        }
    }

    private static void straight() {
        DUE.about("promises 17 to 21 ");
        Sourcewright x = Make.of(16, 5, 144, 0);
        DUE.same("one block", told(x, 0), "0/3//-/00");
        DUE.same("blocks", x.blocks(0), 1);
        DUE.same("one that goes behind the bytes", told(Make.of(144, 144), 0), "0/2/-1/-/00");
        DUE.same("one that goes to what is not wholly there", told(Make.of(144, 16), 0), "0/1/-1/-/00");
        DUE.same("one that is none", told(Make.of(144, 208, 0), 0), "0/2//-/00");
        DUE.same("a return", told(Make.of(144, 134, 0), 0), "0/2//-/00");
        DUE.same("a jump behind the bytes", told(Make.of(144, 128, 77), 0), "0/2/-1/-/00");
    }

    private static void choice() {
        DUE.about("promises 17 to 26 ");
        // 0: if 0 to 6, 2: >a; to 7, 5: never, 6: >b; 7: .
        Sourcewright x = Make.of(129, 6, 144, 128, 7, 0, 145, 0);
        DUE.same("blocks", told(x, 0), "0/1/2,1/-/00 2/2/3/0/10 6/1/3/0/20 7/1//0/30M");
        Sourcewright y = Make.of(130, 2, 0);
        DUE.same("both go to the same", told(y, 0), "0/1/1,1/-/00 2/1//0/10M");
        DUE.same("both go nowhere", told(Make.of(131, 99), 0), "0/1/-1,-1/-/00");
        DUE.same("one goes nowhere", told(Make.of(131, 99, 0), 0), "0/1/-1,1/-/00 2/1//0/10");
    }

    private static void behindJumps() {
        DUE.about("promise 17 ");
        // 0: jump to 4; 2: >a; 3: >b; 4: if 0 to 2; 6: . -- 2 begins a block as the place behind a jump too
        Sourcewright x = Make.of(128, 4, 144, 145, 129, 2, 0);
        DUE.same("blocks", told(x, 0), "0/1/2/-/00 2/2/2/2/31 4/1/1,3/0/1H1 6/1//2/20");
        // 0: if 0 to 3, 2: >a; 3: b=-128; 5: . -- at 4 a jump to 6 would stand, which is not walked to
        Sourcewright y = Make.of(129, 3, 144, 17, 128, 6, 0);
        DUE.same("a jump that is not walked to", told(y, 0), "0/1/2,1/-/00 2/1/2/0/10 3/2//0/20M");
        // 0: if 0 to 4, 2: a=128; 4: >a; 5: . 3: jump to 4, an entry's, behind which 5 begins a block in its function alone
        Sourcewright z = Make.of(129, 4, 16, 128, 4, 0);
        z.entry(3);
        DUE.same("a jump of another function, 0", told(z, 0), "0/1/2,1/-/00 2/1/2/0/10 4/1//0/20M");
        DUE.same("a jump of another function, 1", told(z, 1), "3/1/1/-/00 4/1//0/10");
        // 0: if 0 to 3, 2: a=-128; 4: a~b; 5: . 3: jump to 113, behind which 5 begins a block, though only 4 goes on to it
        Sourcewright w = Make.of(129, 3, 16, 128, 113, 0);
        DUE.same("what is behind a jump and gone on to", told(w, 0), "0/1/2,1/-/00 2/2/3/0/10 3/1/-1/0/30 5/1//1/20");
    }

    private static void walkedToTwice() {
        DUE.about("promise 17 ");
        // 0: if 0 to 3, 2: a=32; 3: a=a; 4: . -- 2 and 3 both go on to 4, no jump goes there
        Sourcewright x = Make.of(129, 3, 16, 32, 0);
        DUE.same("two instructions go on to one", told(x, 0), "0/1/2,1/-/00 2/1/3/0/10 3/1/3/0/20 4/1//0/30M");
    }

    private static void tables() {
        DUE.about("promises 20, 21 and 26 ");
        // 0: [a( by 3 4 5 6: to 7, behind the bytes, to 7, to 16 at 8
        Sourcewright x = Make.of(136, 3, 4, 7, 200, 7, 8, 0, 144, 0);
        DUE.same("blocks", told(x, 0), "0/1/1,-1,1,2/-/00 7/1//0/20M 8/2//0/10");
        DUE.same("next(0, 0, 1)", x.next(0, 0, 1), -1);
        DUE.fails("next(0, 0, 4)", NONE, () -> x.next(0, 0, 4));
        Sourcewright down = Make.of(136, 3, 2, 6, 5, 0, 0);
        DUE.same("by rising places, not values", told(down, 0), "0/1/2,1/-/00 5/1//0/10 6/1//0/20");
    }

    private static void callsInBlocks() {
        DUE.about("promises 19 and 20 ");
        Sourcewright x = Make.of(133, 4, 144, 0, 134);
        DUE.same("a call is gone past", told(x, 0), "0/3//-/00");
        DUE.same("what is called", told(x, 1), "4/1//-/00");
        Sourcewright y = Make.of(144, 133, 4, 0, 0);
        DUE.same("a call that does not return", told(y, 0), "0/2//-/00");
        Sourcewright z = Make.of(129, 3, 134, 133, 2);
        DUE.same("a call that returns to nowhere", told(z, 0), "0/1/2,1/-/00 2/1//0/10 3/1/-1/0/20");
    }

    private static void entryNotFirst() {
        DUE.about("promises 18 and 22 ");
        // function 1 at 4 jumps back to 2, which stands in front of it
        Sourcewright x = Make.of(0, 0, 144, 0, 145, 128, 2);
        x.entry(4);
        DUE.same("blocks", told(x, 1), "2/2//1/10 4/2/0/-/00");
        DUE.fails("nearest(1, 1)", NONE, () -> x.nearest(1, 1));
        DUE.same("nearest(1, 0)", x.nearest(1, 0), 1);
    }

    private static void loops() {
        DUE.about("promises 24 and 25 ");
        // 0: a~b; 1: if 0 to 9; 3: >a; 4: if not 0 to 3; 6: jump to 1 (7), 9: .
        Sourcewright x = Make.of(113, 129, 9, 144, 130, 3, 128, 1, 0, 0);
        DUE.same("one in the other", told(x, 0), "0/1/1/-/00 1/1/4,2/0/1H1 3/2/2,3/1/2H2 6/1/1/2/31 9/1//1/40");
        Sourcewright one = Make.of(128, 0);
        DUE.same("a block that goes to itself", told(one, 0), "0/1/0/-/0H1");
        // two steps back to one head: 0: >a; 1: if 0 to 0, 3: if below to 0, 5: .
        Sourcewright two = Make.of(144, 129, 0, 131, 0, 0);
        DUE.same("two feet are one loop", told(two, 0), "0/2/0,1/-/0H1 3/1/0,2/0/11 5/1//1/20");
    }

    private static void leaps() {
        DUE.about("promise 27 ");
        // 0: if 0 to 4, 2: jump to 4, 4: if not 0 to 2, 6: .
        Sourcewright x = Make.of(129, 4, 128, 4, 130, 2, 0);
        DUE.same("into a circle by two ways", told(x, 0), "0/1/2,1/-/00 2/1/2/0/30M 4/1/1,3/0/10 6/1//2/20");
        DUE.same("leaps", x.leaps(0), 1);
        // the same, and a table whose three places go back to what is ahead of it on all ways
        Sourcewright y = Make.of(129, 4, 128, 4, 130, 8, 128, 2, 136, 11, 3, 4, 4, 4, 0);
        DUE.same("steps back by a table are none", y.leaps(0), 1);
        Sourcewright z = Make.of(129, 7, 136, 5, 2, 7, 7, 128, 2);
        DUE.same("two places of a table", z.leaps(0), 2);
        DUE.same("none", Make.of(128, 0).leaps(0), 0);
    }

    private static void meetings() {
        DUE.about("promise 26 ");
        DUE.same("two places of a table are two steps", Make.of(136, 3, 2, 5, 5, 0).isMeeting(0, 1), true);
        DUE.same("one step", Make.of(136, 3, 1, 4, 0).isMeeting(0, 1), false);
        // a step back does not count: 0: >a; 1: if 0 to 1
        Sourcewright x = Make.of(144, 129, 1, 0);
        DUE.same("one step and one back", x.isMeeting(0, 1), false);
        DUE.same("it is a head", x.isHead(0, 1), true);
    }

    private static void wrong() {
        DUE.about("wrong functions and blocks ");
        Sourcewright x = Make.of(129, 3, 0, 0);
        DUE.same("blocks", x.blocks(0), 3);
        int[][] none = {{-1, 0}, {1, 0}, {0, -1}, {0, 3}, {Integer.MAX_VALUE, 0}, {0, Integer.MIN_VALUE}};
        for (int[] one : none) {
            DUE.fails("first", INDEX, () -> x.first(one[0], one[1]));
            DUE.fails("size", INDEX, () -> x.size(one[0], one[1]));
            DUE.fails("nexts", INDEX, () -> x.nexts(one[0], one[1]));
            DUE.fails("next", INDEX, () -> x.next(one[0], one[1], 0));
            DUE.fails("next, index too", INDEX, () -> x.next(one[0], one[1], -1));
            DUE.fails("nearest", INDEX, () -> x.nearest(one[0], one[1]));
            DUE.fails("order", INDEX, () -> x.order(one[0], one[1]));
            DUE.fails("isHead", INDEX, () -> x.isHead(one[0], one[1]));
            DUE.fails("depth", INDEX, () -> x.depth(one[0], one[1]));
            DUE.fails("isMeeting", INDEX, () -> x.isMeeting(one[0], one[1]));
        }
        DUE.fails("blocks(-1)", INDEX, () -> x.blocks(-1));
        DUE.fails("blocks(1)", INDEX, () -> x.blocks(1));
        DUE.fails("leaps(-1)", INDEX, () -> x.leaps(-1));
        DUE.fails("leaps(1)", INDEX, () -> x.leaps(1));
        DUE.fails("next(0, 0, 2)", NONE, () -> x.next(0, 0, 2));
        DUE.fails("next(0, 0, -1)", NONE, () -> x.next(0, 0, -1));
        DUE.fails("next(0, 1, 0)", NONE, () -> x.next(0, 1, 0));
        DUE.fails("nearest(0, 0)", NONE, () -> x.nearest(0, 0));
    }
}
