import com.sun.management.ThreadMXBean;
import java.lang.management.ManagementFactory;

/** Rule 12 of LANGUAGE.md: rows are made with the object and used again, so that many calls take little room. */
public final class RoomTest {
    private static final Due DUE = new Due("RoomTest");
    private static final ThreadMXBean COUNTED = (ThreadMXBean) ManagementFactory.getThreadMXBean();
    private static long sum = 0;

    public static void main(String[] args) {
        // the first one loads the class and all that it asks for
        ask(Make.of(133, 3, 0, 134));
        long before = taken();
        Sourcewright x = new Sourcewright();
        DUE.check(taken() - before < 60000, "a new object takes " + (taken() - before));
        for (int value : Programs.calledTables()) {
            x.type(value);
        }
        before = taken();
        ask(x);
        long first = taken() - before;
        DUE.check(first < 2000000, "the first calls take " + first);
        before = taken();
        for (int i = 0; i < 20; i++) {
            x.set(119, 60 + i % 2);
            ask(x);
        }
        long more = taken() - before;
        DUE.check(more < 10000, "the same calls again take " + more);
        DUE.check(sum != 0, "nothing was asked");
        DUE.end();
    }

    private static long taken() {
        return COUNTED.getThreadAllocatedBytes(Thread.currentThread().getId());
    }

    /** The dearest calls: each reads, studies, draws or builds. */
    private static void ask(Sourcewright x) {
        sum += x.functions() + x.doubts() + x.keep() + x.checksum() + x.run(false, 2000);
        for (int function = 0; function < x.functions(); function++) {
            sum += x.source(function) + x.sign(function, 0) + x.match(function) + x.blocks(function) + x.leaps(function);
            sum += x.order(function, 0) + x.live(function, x.entryOf(function)) + (long) x.meanBlock(function);
        }
        sum += x.isSound() ? 1 : 0;
    }
}
