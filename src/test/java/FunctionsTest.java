import java.util.NoSuchElementException;

/** Promises 11 to 16: functions and who calls whom. */
public final class FunctionsTest {
    private static final Due DUE = new Due("FunctionsTest");
    private static final Class<IndexOutOfBoundsException> INDEX = IndexOutOfBoundsException.class;

    public static void main(String[] args) {
        counts();
        owners();
        returns();
        calls();
        wrong();
        DUE.end();
    }

    private static void counts() {
        DUE.about("promises 11 and 12 ");
        // 0: (6);(9);. 5: - 6: (9);, 9: ,
        Sourcewright x = Make.of(133, 6, 133, 9, 0, 0, 133, 9, 134, 134, 134);
        DUE.same("functions", x.functions(), 3);
        DUE.same("entryOf(0)", x.entryOf(0), 0);
        DUE.same("entryOf(1)", x.entryOf(1), 6);
        DUE.same("entryOf(2)", x.entryOf(2), 9);
        x.entry(8);
        DUE.same("functions with an entry", x.functions(), 4);
        DUE.same("entryOf(2) with an entry", x.entryOf(2), 8);
        x.entry(6);
        DUE.same("an entry that is called too", x.functions(), 4);
        DUE.same("what is called by what is not walked to", Make.of(0, 133, 0).functions(), 1);
        DUE.same("what is called behind the bytes", Make.of(133, 2).functions(), 1);
        DUE.same("what is called is not wholly there", Make.of(133, 2, 16).functions(), 1);
        DUE.same("what is called is none", Make.of(133, 2, 208).functions(), 2);
        DUE.same("nothing at 0", Make.of(16).functions(), 0);
        DUE.same("what is called by a called one", Make.of(133, 3, 0, 133, 6, 0, 0).functions(), 3);
    }

    private static void owners() {
        DUE.about("promises 13 and 14 ");
        // 0 jumps to 3, function 1 at 2 goes on to it, function 2 at 4
        Sourcewright x = Make.of(128, 3, 144, 144, 0, 0);
        x.entry(2);
        x.entry(4);
        int[] first = {0, -1, 1, 0, 0};
        int[] many = {1, 0, 1, 2, 3, 0};
        for (int place = 0; place < many.length; place++) {
            DUE.same("sharers(" + place + ")", x.sharers(place), many[place]);
            if (many[place] > 0) {
                DUE.same("functionOf(" + place + ")", x.functionOf(place), first[place]);
            }
        }
        DUE.fails("functionOf(1)", NoSuchElementException.class, () -> x.functionOf(1));
        DUE.fails("functionOf(5)", NoSuchElementException.class, () -> x.functionOf(5));
        DUE.fails("functionOf(6)", INDEX, () -> x.functionOf(6));
        DUE.fails("functionOf(-1)", INDEX, () -> x.functionOf(-1));
        DUE.fails("sharers(6)", INDEX, () -> x.sharers(6));
        DUE.fails("sharers(-1)", INDEX, () -> x.sharers(-1));
        Sourcewright y = Make.of(133, 4, 0, 0, 134);
        DUE.same("what is called is not the caller's", y.functionOf(4), 1);
        DUE.same("the caller's own", y.functionOf(2), 0);
        DUE.same("what is none", Make.of(208).functionOf(0), 0);
    }

    private static void returns() {
        DUE.about("promise 15 ");
        Sourcewright itself = Make.of(133, 0, 134);
        DUE.same("it calls itself first", itself.mayReturn(0), false);
        DUE.same("so its return is not walked to", itself.kind(2), '-');
        Sourcewright either = Make.of(129, 4, 133, 0, 134);
        DUE.same("it may pass its call by", either.mayReturn(0), true);
        Sourcewright one = Make.of(133, 3, 134, 133, 0, 134);
        DUE.same("each waits for the other, 0", one.mayReturn(0), false);
        DUE.same("each waits for the other, 1", one.mayReturn(1), false);
        Sourcewright two = Make.of(133, 3, 134, 129, 7, 133, 0, 134);
        DUE.same("the other need not call, 0", two.mayReturn(0), true);
        DUE.same("the other need not call, 1", two.mayReturn(1), true);
        Sourcewright table = Make.of(136, 3, 2, 200, 5, 134);
        DUE.same("by a table", table.mayReturn(0), true);
        DUE.same("halt", Make.of(0).mayReturn(0), false);
        DUE.same("none", Make.of(208).mayReturn(0), false);
        DUE.same("what is called behind the bytes", Make.of(133, 250, 134).mayReturn(0), false);
    }

    private static void calls() {
        DUE.about("promise 16 ");
        // 0: choice to 6, (9);(9);. 6: (0);. 9: (9);, shared by nothing
        Sourcewright x = Make.of(129, 6, 133, 9, 133, 9, 133, 0, 0, 129, 13, 133, 9, 134);
        DUE.same("functions", x.functions(), 2);
        DUE.same("calls(0, 1)", x.calls(0, 1), 2);
        DUE.same("calls(0, 0)", x.calls(0, 0), 1);
        DUE.same("calls(1, 1)", x.calls(1, 1), 1);
        DUE.same("calls(1, 0)", x.calls(1, 0), 0);
        Sourcewright y = Make.of(133, 4, 133, 4, 0);
        DUE.same("what is not walked to calls nothing", y.calls(0, 1), 1);
    }

    private static void wrong() {
        DUE.about("wrong functions ");
        Sourcewright x = Make.of(133, 3, 0, 134);
        int[] none = {-1, 2, 120, Integer.MIN_VALUE, Integer.MAX_VALUE};
        for (int function : none) {
            DUE.fails("entryOf", INDEX, () -> x.entryOf(function));
            DUE.fails("mayReturn", INDEX, () -> x.mayReturn(function));
            DUE.fails("calls", INDEX, () -> x.calls(function, 0));
            DUE.fails("calls, the other", INDEX, () -> x.calls(0, function));
        }
        DUE.fails("entryOf without bytes", INDEX, () -> new Sourcewright().entryOf(0));
        DUE.fails("calls without bytes", INDEX, () -> new Sourcewright().calls(0, 0));
    }
}
