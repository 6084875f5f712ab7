/** Promises 44 to 47: sums over what is read, and the check of it. */
public final class SumsTest {
    private static final Due DUE = new Due("SumsTest");

    public static void main(String[] args) {
        checksum();
        codeShare();
        meanBlock();
        isSound();
        DUE.end();
    }

    private static long sum(long... values) {
        long sum = 7;
        for (long value : values) {
            sum = 31 * sum + value;
        }
        return sum;
    }

    private static void checksum() {
        DUE.about("promise 44 ");
        DUE.same("at first", new Sourcewright().checksum(), 7);
        DUE.same("one byte", Make.of(0).checksum(), sum('c', 0, 1));
        DUE.same("not wholly there", Make.of(16).checksum(), sum('-'));
        // (4); at 0, >a;, at 4
        Sourcewright x = Make.of(133, 4, 0, 0, 144, 134);
        DUE.same("two functions", x.checksum(), sum('c', 'o', 'c', '-', 'c', 'c', 0, 5, 4, 4));
        x.tidy(true);
        DUE.same("nothing is idle", x.checksum(), sum('c', 'o', 'c', '-', 'c', 'c', 0, 5, 4, 4));
        Sourcewright y = Make.of(16, 1, 0);
        DUE.same("an idle one", y.checksum(), sum('c', 'o', 'c', 0, 5));
        y.tidy(true);
        DUE.same("an idle one left out", y.checksum(), sum('c', 'o', 'c', 0, 1));
        DUE.same("a table", Make.of(136, 4, 1, 0, 3).checksum(), sum('c', 'o', 'o', 'c', 't', 0, 5));
        Sourcewright full = new Sourcewright();
        long[] due = new long[122];
        for (int i = 0; i < 120; i++) {
            full.type(144);
            due[i] = 'c';
        }
        due[121] = 120 * 3 + 1;
        DUE.same("it wraps", full.checksum(), sum(due));
    }

    private static void codeShare() {
        DUE.about("promise 45 ");
        DUE.fails("no bytes", ArithmeticException.class, () -> new Sourcewright().codeShare());
        DUE.same("all", Make.of(16, 1, 0).codeShare(), 1.0f);
        DUE.same("none", Make.of(16).codeShare(), 0.0f);
        DUE.same("two of three", Make.of(144, 0, 0).codeShare(), 2f / 3f);
        DUE.same("a table is none", Make.of(136, 4, 1, 0, 3).codeShare(), 4f / 5f);
        DUE.same("one of seven", Make.of(0, 0, 0, 0, 0, 0, 0).codeShare(), 1f / 7f);
        Sourcewright x = Make.of(0);
        x.wipe();
        DUE.fails("wiped", ArithmeticException.class, () -> x.codeShare());
    }

    private static void meanBlock() {
        DUE.about("promise 46 ");
        DUE.same("one", Make.of(144, 144, 0).meanBlock(0), 3.0);
        Sourcewright x = Make.of(113, 129, 5, 144, 145, 0);
        DUE.same("5 by 3", x.meanBlock(0), 5.0 / 3.0);
        DUE.fails("meanBlock(1)", IndexOutOfBoundsException.class, () -> x.meanBlock(1));
        DUE.fails("meanBlock(-1)", IndexOutOfBoundsException.class, () -> x.meanBlock(-1));
        DUE.fails("meanBlock without bytes", IndexOutOfBoundsException.class, () -> new Sourcewright().meanBlock(0));
    }

    private static void isSound() {
        DUE.about("promise 47 ");
        DUE.same("no bytes", new Sourcewright().isSound(), true);
        DUE.same("a leap", Make.of(129, 4, 128, 4, 130, 2, 0).isSound(), true);
        DUE.same("two circles with a leap each", Make.of(129, 7, 136, 5, 2, 7, 7, 128, 2).isSound(), true);
        DUE.same("a circle", Make.of(128, 0).isSound(), true);
        Sourcewright x = Make.of(160, 17, 1, 114, 129, 10, 144, 65, 128, 3, 0);
        DUE.same("without inputs", x.isSound(), true);
        x.input(300);
        DUE.same("longer than 300", x.isSound(), true);
        x.tidy(true);
        DUE.same("tidied", x.isSound(), true);
        Sourcewright y = Make.of(Programs.tables());
        DUE.same("all bytes but three are of tables too", y.doubts(), 117);
        DUE.check(y.source(0) > 10000, "the source of tables is long");
        DUE.same("isSound of tables", y.isSound(), true);
    }
}
