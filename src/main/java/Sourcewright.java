import java.util.NoSuchElementException;

/**
 * Reads the bytes of a small machine backwards: tells what is code, finds functions and blocks, makes loops, choices
 * and blocks of the flow, writes a source, compiles it again, runs both and matches functions by their sources.
 */
public final class Sourcewright {
    private static final int MOST_BYTES = 120;
    private static final int MOST_COMPILED = 240;
    private static final int MOST_TOLD = 4;
    private static final int MOST_INPUTS = 12;
    private static final int MOST_OUTPUTS = 40;
    private static final int MOST_KEPT = 8;
    private static final int MOST_STEPS = 2000;
    private static final int SOUND_STEPS = 300;
    private static final int REGISTERS = 4;
    private static final int CELLS = 8;
    private static final int ALL_REGISTERS = 15;

    /** A place that is behind the bytes of every code, so that a jump to it is the end 'b'. */
    private static final int NOWHERE = 255;
    private static final int HALT_BYTE = 0;
    private static final int JUMP_BYTE = 128;
    private static final int CALL_BYTE = 133;
    private static final int RETURN_BYTE = 134;
    private static final int NONE_BYTE = 208;

    /** Far above what any loop of the class can need. */
    private static final int MANY = 1000000;

    private static final int HALT = 0;
    private static final int NUMBER = 1;
    private static final int COPY = 2;
    private static final int ADD = 3;
    private static final int SUBTRACT = 4;
    private static final int MULTIPLY = 5;
    private static final int DIVIDE = 6;
    private static final int COMPARE = 7;
    private static final int JUMP = 8;
    private static final int OUT = 9;
    private static final int IN = 10;
    private static final int LOAD = 11;
    private static final int STORE = 12;
    private static final int NONE = 13;
    private static final int CHOICE = 14;
    private static final int CALL = 15;
    private static final int RETURN = 16;
    private static final int TABLE = 17;
    private static final int BEYOND = 18;

    /** The operation by the higher half of a byte; those of the half 8 are told by BRANCHES. */
    private static final int[] PLAIN = {0, 1, 2, 3, 4, 5, 6, 7, 13, 9, 10, 11, 12, 13, 13, 13};
    private static final int[] BRANCHES = {8, 14, 14, 14, 14, 15, 16, 13, 17, 17, 17, 17, 13, 13, 13, 13};
    private static final int[] SPANS = {1, 2, 1, 1, 1, 1, 1, 1, 2, 1, 1, 2, 2, 1, 2, 2, 1, 3, 0};

    private static final char INLINE = ' ';
    private static final char UNENDED = ' ';

    private final Code code;
    private final int[] told;
    private int toldCount;
    private final int[] inputs;
    private int inputCount;
    private boolean isTidy;
    private final Reading reading;
    private final Blocks division;
    private final Ways ways;
    private final Life life;
    private final Scribe scribe;
    private final Builder builder;
    private final Shelf shelf;
    private final Machine last;
    private final Machine forth;
    private final Machine back;

    /** What is found from the bytes is found again only after a change: these tell what stands. */
    private boolean isRead;
    private int studied;
    private int drawn;
    private boolean isBuilt;

    public Sourcewright() {
        code = new Code();
        told = new int[MOST_TOLD];
        toldCount = 0;
        inputs = new int[MOST_INPUTS];
        inputCount = 0;
        isTidy = false;
        reading = new Reading(code);
        division = new Blocks(code, reading);
        ways = new Ways(division);
        life = new Life(code, reading);
        scribe = new Scribe(code, division, ways, life);
        builder = new Builder(code, division, ways, life);
        shelf = new Shelf();
        last = new Machine();
        forth = new Machine();
        back = new Machine();
        isRead = false;
        studied = -1;
        drawn = -1;
        isBuilt = false;
    }

    public int type(int value) throws IllegalArgumentException, IllegalStateException {
        if (!isByte(value)) {
            throw new IllegalArgumentException("no byte");
        }
        if (code.count() >= MOST_BYTES) {
            throw new IllegalStateException("too many bytes");
        }
        code.put(code.count(), value);
        code.cut(code.count() + 1);
        forget();
        return code.count();
    }

    public int set(int place, int value) throws IndexOutOfBoundsException, IllegalArgumentException {
        checkPlace(place);
        if (!isByte(value)) {
            throw new IllegalArgumentException("no byte");
        }
        int before = code.at(place);
        code.put(place, value);
        forget();
        return before;
    }

    public int wipe() {
        int before = code.count();
        code.cut(0);
        toldCount = 0;
        forget();
        return before;
    }

    public int byteAt(int place) throws IndexOutOfBoundsException {
        checkPlace(place);
        return code.at(place);
    }

    public int entry(int place) throws IndexOutOfBoundsException, UnsupportedOperationException, IllegalStateException {
        checkPlace(place);
        if (place == 0 || isTold(place)) {
            throw new UnsupportedOperationException("an entry already");
        }
        if (toldCount < 0 || toldCount >= told.length) {
            throw new IllegalStateException("too many entries");
        }
        told[toldCount] = place;
        toldCount++;
        forget();
        return toldCount;
    }

    public char kind(int place) throws IndexOutOfBoundsException {
        checkPlace(place);
        read();
        return reading.kindAt(place);
    }

    public boolean isInDoubt(int place) throws IndexOutOfBoundsException {
        checkPlace(place);
        read();
        return reading.isDoubtful(place);
    }

    public int doubts() {
        read();
        int sum = 0;
        for (int place = 0; place < code.count(); place++) {
            if (reading.isDoubtful(place)) {
                sum++;
            }
        }
        return sum;
    }

    public int length(int place) throws IndexOutOfBoundsException {
        checkPlace(place);
        read();
        return code.op(place) == NONE ? 0 : code.span(place);
    }

    public int functions() {
        read();
        return reading.count();
    }

    public int entryOf(int function) throws IndexOutOfBoundsException {
        checkFunction(function);
        return reading.entryPlace(function);
    }

    public int functionOf(int place) throws IndexOutOfBoundsException, NoSuchElementException {
        checkPlace(place);
        read();
        for (int function = 0; function < reading.count(); function++) {
            if (reading.has(function, place)) {
                return function;
            }
        }
        throw new NoSuchElementException("no function has it");
    }

    public int sharers(int place) throws IndexOutOfBoundsException {
        checkPlace(place);
        read();
        int sum = 0;
        for (int function = 0; function < reading.count(); function++) {
            if (reading.has(function, place)) {
                sum++;
            }
        }
        return sum;
    }

    public boolean mayReturn(int function) throws IndexOutOfBoundsException {
        checkFunction(function);
        return reading.returnsFrom(reading.entryPlace(function));
    }

    public int calls(int function, int other) throws IndexOutOfBoundsException {
        checkFunction(function);
        checkFunction(other);
        int callee = reading.entryPlace(other);
        int sum = 0;
        for (int place = 0; place < code.count(); place++) {
            if (reading.has(function, place) && code.op(place) == CALL && code.at(place + 1) == callee) {
                sum++;
            }
        }
        return sum;
    }

    public int blocks(int function) throws IndexOutOfBoundsException {
        checkFunction(function);
        study(function);
        return division.count();
    }

    public int first(int function, int block) throws IndexOutOfBoundsException {
        checkBlock(function, block);
        return division.firstPlace(block);
    }

    public int size(int function, int block) throws IndexOutOfBoundsException {
        checkBlock(function, block);
        return division.instructions(block);
    }

    public int nexts(int function, int block) throws IndexOutOfBoundsException {
        checkBlock(function, block);
        return division.stepCount(block);
    }

    public int next(int function, int block, int index) throws IndexOutOfBoundsException, NoSuchElementException {
        checkBlock(function, block);
        if (index < 0 || index >= division.stepCount(block)) {
            throw new NoSuchElementException("no such next one");
        }
        return division.stepTo(block, index);
    }

    public int nearest(int function, int block) throws IndexOutOfBoundsException, NoSuchElementException {
        checkBlock(function, block);
        if (block == division.entryBlock()) {
            throw new NoSuchElementException("none is ahead of the entry's block");
        }
        return ways.nearestTo(block);
    }

    public int order(int function, int block) throws IndexOutOfBoundsException {
        checkBlock(function, block);
        return ways.orderOf(block);
    }

    public boolean isHead(int function, int block) throws IndexOutOfBoundsException {
        checkBlock(function, block);
        return ways.heads(block);
    }

    public int depth(int function, int block) throws IndexOutOfBoundsException {
        checkBlock(function, block);
        return ways.loopsAround(block);
    }

    public boolean isMeeting(int function, int block) throws IndexOutOfBoundsException {
        checkBlock(function, block);
        return ways.meets(block);
    }

    public int leaps(int function) throws IndexOutOfBoundsException {
        checkFunction(function);
        study(function);
        return ways.leapCount();
    }

    public int live(int function, int place) throws IndexOutOfBoundsException, NoSuchElementException {
        checkInstruction(function, place);
        return life.aheadOf(place);
    }

    public boolean isIdle(int function, int place) throws IndexOutOfBoundsException, NoSuchElementException {
        checkInstruction(function, place);
        return life.idles(place);
    }

    public boolean tidy(boolean is) {
        boolean before = isTidy;
        isTidy = is;
        if (before != is) {
            drawn = -1;
            isBuilt = false;
        }
        return before;
    }

    public int source(int function) throws IndexOutOfBoundsException {
        checkFunction(function);
        draw(function);
        return scribe.count();
    }

    public char sign(int function, int place) throws IndexOutOfBoundsException, NoSuchElementException {
        checkFunction(function);
        draw(function);
        if (place < 0 || place >= scribe.count()) {
            throw new NoSuchElementException("no such sign");
        }
        return scribe.at(place);
    }

    public int compiled() throws UnsupportedOperationException {
        read();
        build();
        checkCompiled();
        return builder.count();
    }

    public int compiledByte(int place) throws UnsupportedOperationException, NoSuchElementException {
        read();
        build();
        checkCompiled();
        if (place < 0 || place >= builder.count()) {
            throw new NoSuchElementException("no such byte");
        }
        return builder.result().at(place);
    }

    public int input(int value) throws IllegalStateException {
        if (inputCount < 0 || inputCount >= inputs.length) {
            throw new IllegalStateException("too many inputs");
        }
        inputs[inputCount] = value;
        inputCount++;
        return inputCount;
    }

    public int dry() {
        int before = inputCount;
        inputCount = 0;
        return before;
    }

    public char run(boolean isBack, int steps) throws IllegalArgumentException, UnsupportedOperationException {
        checkSteps(steps);
        read();
        if (!isBack) {
            return last.go(code, inputs, inputCount, steps);
        }
        build();
        checkCompiled();
        return last.go(builder.result(), inputs, inputCount, steps);
    }

    public int outputs() {
        return last.outCount();
    }

    public int output(int index) throws NoSuchElementException {
        if (index < 0 || index >= last.outCount()) {
            throw new NoSuchElementException("no such number");
        }
        return last.outAt(index);
    }

    public int steps() {
        return last.stepCount();
    }

    public boolean agree(int steps) throws IllegalArgumentException, UnsupportedOperationException {
        checkSteps(steps);
        read();
        build();
        checkCompiled();
        return isAgreed(steps);
    }

    public int keep() {
        read();
        shelf.empty();
        for (int function = 0; function < reading.count(); function++) {
            draw(function);
            shelf.add(scribe.text(), scribe.count());
        }
        return shelf.count();
    }

    public int match(int function) throws IndexOutOfBoundsException, NoSuchElementException {
        checkFunction(function);
        draw(function);
        int found = shelf.find(scribe.text(), scribe.count());
        if (found < 0) {
            throw new NoSuchElementException("none is kept with that source");
        }
        return found;
    }

    public long checksum() {
        read();
        long sum = 7L;
        for (int place = 0; place < code.count(); place++) {
            sum = 31L * sum + reading.kindAt(place);
        }
        for (int function = 0; function < reading.count(); function++) {
            draw(function);
            sum = 31L * sum + reading.entryPlace(function);
            sum = 31L * sum + scribe.count();
        }
        return sum;
    }

    public float codeShare() throws ArithmeticException {
        if (code.count() <= 0) {
            throw new ArithmeticException("no bytes");
        }
        read();
        int sum = 0;
        for (int place = 0; place < code.count(); place++) {
            char kind = reading.kindAt(place);
            if (kind == 'c' || kind == 'o') {
                sum++;
            }
        }
        return (float) sum / (float) code.count();
    }

    public double meanBlock(int function) throws IndexOutOfBoundsException {
        checkFunction(function);
        study(function);
        int sum = 0;
        for (int block = 0; block < division.count(); block++) {
            sum += division.instructions(block);
        }
        return division.count() > 0 ? (double) sum / (double) division.count() : 0.0;
    }

    public boolean isSound() {
        read();
        for (int function = 0; function < reading.count(); function++) {
            draw(function);
            if (!scribe.isEachOnce() || !ways.isNearestProven()) {
                return false;
            }
        }
        build();
        return builder.count() > MOST_COMPILED || isAgreed(SOUND_STEPS);
    }

    private static boolean isByte(int value) {
        return value >= 0 && value <= 255;
    }

    private boolean isTold(int place) {
        for (int i = 0; i < toldCount && i < told.length; i++) {
            if (told[i] == place) {
                return true;
            }
        }
        return false;
    }

    private void checkPlace(int place) {
        if (place < 0 || place >= code.count()) {
            throw new IndexOutOfBoundsException("no such byte");
        }
    }

    private void checkFunction(int function) {
        read();
        if (!reading.isFunction(function)) {
            throw new IndexOutOfBoundsException("no such function");
        }
    }

    private void checkBlock(int function, int block) {
        read();
        if (!reading.isFunction(function)) {
            throw new IndexOutOfBoundsException("no such function");
        }
        study(function);
        if (!division.isBlock(block)) {
            throw new IndexOutOfBoundsException("no such block");
        }
    }

    private void checkInstruction(int function, int place) {
        read();
        if (!reading.isFunction(function)) {
            throw new IndexOutOfBoundsException("no such function");
        }
        if (!reading.has(function, place)) {
            throw new NoSuchElementException("no instruction there");
        }
    }

    private void checkSteps(int steps) {
        if (steps < 0 || steps > MOST_STEPS) {
            throw new IllegalArgumentException("no such number of steps");
        }
    }

    private void checkCompiled() {
        if (builder.count() > MOST_COMPILED) {
            throw new UnsupportedOperationException("too many compiled bytes");
        }
    }

    private void forget() {
        isRead = false;
        studied = -1;
        drawn = -1;
        isBuilt = false;
    }

    private void read() {
        if (!isRead) {
            code.decode();
            reading.tell(told, toldCount);
            life.tell();
            isRead = true;
        }
    }

    /** Wants the bytes to be read already, as draw and build do. */
    private void study(int function) {
        if (studied != function) {
            division.divide(function);
            ways.arrange();
            studied = function;
        }
    }

    private void draw(int function) {
        study(function);
        if (drawn != function) {
            scribe.write(isTidy);
            drawn = function;
        }
    }

    private void build() {
        if (isBuilt) {
            return;
        }
        builder.start(reading.count() > 0 && reading.entryPlace(0) == 0);
        for (int function = 0; function < reading.count() && builder.count() <= MOST_COMPILED; function++) {
            study(function);
            builder.write(reading.entryPlace(function), isTidy);
        }
        builder.finish();
        isBuilt = true;
    }

    private boolean isAgreed(int steps) {
        char forthEnd = forth.go(code, inputs, inputCount, steps);
        char backEnd = back.go(builder.result(), inputs, inputCount, steps);
        if (forthEnd != 's' && backEnd != 's' && (forthEnd != backEnd || forth.outCount() != back.outCount())) {
            return false;
        }
        for (int i = 0; i < forth.outCount() && i < back.outCount(); i++) {
            if (forth.outAt(i) != back.outAt(i)) {
                return false;
            }
        }
        return true;
    }

    /** Bytes, and what each place holds when an instruction is read from it. */
    private static final class Code {
        private final int[] row = new int[MOST_COMPILED];
        private final int[] ops = new int[MOST_COMPILED];
        private int count = 0;

        int count() {
            return count;
        }

        int at(int place) {
            return place >= 0 && place < count && place < row.length ? row[place] : 0;
        }

        void put(int place, int value) {
            if (place >= 0 && place < row.length) {
                row[place] = value;
            }
        }

        void cut(int length) {
            count = length < 0 ? 0 : Math.min(length, row.length);
        }

        int op(int place) {
            return place >= 0 && place < count && place < ops.length ? ops[place] : BEYOND;
        }

        int span(int place) {
            int op = place >= 0 && place < count && place < ops.length ? ops[place] : BEYOND;
            return op >= 0 && op < SPANS.length ? SPANS[op] : 0;
        }

        /** The first register that is named, where two are. */
        int major(int place) {
            return at(place) >> 2 & 3;
        }

        int minor(int place) {
            return at(place) & 3;
        }

        void decode() {
            for (int place = 0; place < count && place < ops.length; place++) {
                ops[place] = find(place);
            }
        }

        private int find(int place) {
            int found = named(at(place));
            if (place + spanOf(found) > count) {
                return BEYOND;
            }
            if ((found == LOAD || found == STORE) && at(place + 1) >= CELLS) {
                return NONE;
            }
            if (found == TABLE && !isTableWithin(at(place + 1), at(place + 2))) {
                return NONE;
            }
            return found;
        }

        private boolean isTableWithin(int from, int many) {
            return many > 0 && from + many <= count;
        }

        private static int named(int value) {
            int high = value >> 4;
            int low = value & 15;
            if (high == 8) {
                return low < BRANCHES.length ? BRANCHES[low] : NONE;
            }
            return high >= 0 && high < PLAIN.length ? PLAIN[high] : NONE;
        }

        private static int spanOf(int op) {
            return op >= 0 && op < SPANS.length ? SPANS[op] : 0;
        }
    }

    /** Rows of sets of numbers below 128, each in two words. */
    private static final class Sets {
        private final long[] low = new long[MOST_BYTES + 1];
        private final long[] high = new long[MOST_BYTES + 1];

        void clear(int row) {
            if (row >= 0 && row < low.length && row < high.length) {
                low[row] = 0L;
                high[row] = 0L;
            }
        }

        void fill(int row) {
            if (row >= 0 && row < low.length && row < high.length) {
                low[row] = -1L;
                high[row] = -1L;
            }
        }

        void add(int row, int item) {
            if (row < 0 || row >= low.length || row >= high.length) {
                return;
            }
            if (item >= 0 && item < 64) {
                low[row] |= 1L << item;
            } else if (item >= 64 && item < 128) {
                high[row] |= 1L << (item - 64);
            }
        }

        boolean holds(int row, int item) {
            if (row < 0 || row >= low.length || row >= high.length || item < 0 || item >= 128) {
                return false;
            }
            return item < 64 ? (low[row] >>> item & 1L) != 0L : (high[row] >>> (item - 64) & 1L) != 0L;
        }

        /** Leaves in the row what the other row holds too, and its own number; tells whether the row became smaller. */
        boolean narrow(int row, int other) {
            if (row < 0 || row >= low.length || row >= high.length) {
                return false;
            }
            if (other < 0 || other >= low.length || other >= high.length) {
                return false;
            }
            long lowBefore = low[row];
            long highBefore = high[row];
            low[row] &= low[other] | (row < 64 ? 1L << row : 0L);
            high[row] &= high[other] | (row >= 64 ? 1L << (row - 64) : 0L);
            return low[row] != lowBefore || high[row] != highBefore;
        }
    }

    /** Which bytes are code, which functions there are, and what each of them has. */
    private static final class Reading {
        /** The row of the set of all places that are walked to, behind those of the functions. */
        private static final int WHOLE = MOST_BYTES;
        private static final int BEGINS = 1;
        private static final int INSIDE = 2;
        private static final int TABLED = 4;
        private static final int INSIDE_TWICE = 8;

        private final Code code;
        private final Sets walked = new Sets();
        private final boolean[] returns = new boolean[MOST_BYTES];
        private final boolean[] isEntry = new boolean[MOST_BYTES];
        private final int[] marks = new int[MOST_BYTES];
        private final int[] entries = new int[MOST_BYTES];
        private final int[] stack = new int[MOST_BYTES];
        private int stackCount = 0;
        private int length = 0;
        private int count = 0;

        Reading(Code code) {
            this.code = code;
        }

        int count() {
            return count;
        }

        boolean isFunction(int function) {
            return function >= 0 && function < count;
        }

        int entryPlace(int function) {
            return function >= 0 && function < count && function < entries.length ? entries[function] : 0;
        }

        boolean has(int function, int place) {
            return function >= 0 && function < count && walked.holds(function, place);
        }

        boolean returnsFrom(int place) {
            return place >= 0 && place < length && returns[place];
        }

        char kindAt(int place) {
            int mark = markAt(place);
            if ((mark & BEGINS) != 0) {
                return 'c';
            }
            if ((mark & INSIDE) != 0) {
                return 'o';
            }
            return (mark & TABLED) != 0 ? 't' : '-';
        }

        boolean isDoubtful(int place) {
            int mark = markAt(place);
            return (mark & INSIDE_TWICE) != 0 || Integer.bitCount(mark & (BEGINS | INSIDE | TABLED)) > 1;
        }

        /** How many places an instruction leads to within its function. */
        int wayCount(int place) {
            switch (code.op(place)) {
                case HALT:
                case RETURN:
                case NONE:
                case BEYOND:
                    return 0;
                case CHOICE:
                    return 2;
                case TABLE:
                    return code.at(place + 2);
                case CALL:
                    return returnsFrom(code.at(place + 1)) ? 1 : 0;
                default:
                    return 1;
            }
        }

        /** Where an instruction leads to, -1 if that is not wholly there. */
        int way(int place, int index) {
            int op = code.op(place);
            int to = place + code.span(place);
            if (op == TABLE) {
                to = code.at(code.at(place + 1) + index);
            } else if (index == 0 && (op == JUMP || op == CHOICE)) {
                to = code.at(place + 1);
            }
            return code.op(to) == BEYOND ? -1 : to;
        }

        void tell(int[] told, int toldCount) {
            length = Math.min(code.count(), MOST_BYTES);
            findReturns();
            findFunctions(told, toldCount);
            for (int function = 0; function < count; function++) {
                walked.clear(function);
                walk(function, entryPlace(function));
            }
            markBytes();
        }

        private int markAt(int place) {
            return place >= 0 && place < length ? marks[place] : 0;
        }

        /** Whether it may return depends on the place alone, so that it can be told before functions are known. */
        private void findReturns() {
            for (int place = 0; place < length; place++) {
                returns[place] = false;
            }
            boolean isChanged = true;
            for (int round = 0; isChanged && round <= MOST_BYTES; round++) {
                isChanged = false;
                for (int place = length - 1; place >= 0; place--) {
                    if (!returns[place] && leadsToReturn(place)) {
                        returns[place] = true;
                        isChanged = true;
                    }
                }
            }
        }

        private boolean leadsToReturn(int place) {
            if (code.op(place) == RETURN) {
                return true;
            }
            int many = wayCount(place);
            for (int i = 0; i < many; i++) {
                if (returnsFrom(way(place, i))) {
                    return true;
                }
            }
            return false;
        }

        private void findFunctions(int[] told, int toldCount) {
            walked.clear(WHOLE);
            for (int place = 0; place < length; place++) {
                isEntry[place] = false;
            }
            if (noteEntry(0)) {
                walk(WHOLE, 0);
            }
            for (int i = 0; i < toldCount && i < told.length; i++) {
                if (noteEntry(told[i])) {
                    walk(WHOLE, told[i]);
                }
            }
            count = 0;
            for (int place = 0; place < length; place++) {
                if (isEntry[place] && count < entries.length) {
                    entries[count] = place;
                    count++;
                }
            }
        }

        private boolean noteEntry(int place) {
            if (place < 0 || place >= length || code.op(place) == BEYOND) {
                return false;
            }
            isEntry[place] = true;
            return true;
        }

        /** A walk through all goes into what is called too, and notes it. */
        private void walk(int row, int start) {
            stackCount = 0;
            reach(row, start);
            for (int turn = 0; turn <= MOST_BYTES && stackCount > 0 && stackCount <= stack.length; turn++) {
                stackCount--;
                int place = stack[stackCount];
                int many = wayCount(place);
                for (int i = 0; i < many; i++) {
                    reach(row, way(place, i));
                }
                int callee = code.at(place + 1);
                if (row == WHOLE && code.op(place) == CALL && noteEntry(callee)) {
                    reach(row, callee);
                }
            }
        }

        private void reach(int row, int place) {
            if (place < 0 || walked.holds(row, place) || stackCount < 0 || stackCount >= stack.length) {
                return;
            }
            walked.add(row, place);
            stack[stackCount] = place;
            stackCount++;
        }

        private void markBytes() {
            for (int place = 0; place < length; place++) {
                marks[place] = 0;
            }
            for (int place = 0; place < length; place++) {
                if (walked.holds(WHOLE, place)) {
                    markInstruction(place);
                }
            }
        }

        private void markInstruction(int place) {
            mark(place, BEGINS);
            int span = code.span(place);
            for (int i = 1; i < span; i++) {
                mark(place + i, (markAt(place + i) & INSIDE) != 0 ? INSIDE_TWICE : INSIDE);
            }
            if (code.op(place) == TABLE) {
                int from = code.at(place + 1);
                int many = code.at(place + 2);
                for (int i = 0; i < many; i++) {
                    mark(from + i, TABLED);
                }
            }
        }

        private void mark(int place, int bit) {
            if (place >= 0 && place < length) {
                marks[place] |= bit;
            }
        }
    }

    /** The blocks of the one function that is studied. */
    private static final class Blocks {
        private final Code code;
        private final Reading reading;
        private final boolean[] isFirst = new boolean[MOST_BYTES];
        private final boolean[] isWalkedTo = new boolean[MOST_BYTES];
        private final int[] blockAt = new int[MOST_BYTES];
        private final int[] firsts = new int[MOST_BYTES];
        private final int[] lasts = new int[MOST_BYTES];
        private final int[] many = new int[MOST_BYTES];
        private final int[] stepCounts = new int[MOST_BYTES];
        private final int[] goes = new int[MOST_BYTES];
        private final int[] passes = new int[MOST_BYTES];
        private final int[] tables = new int[MOST_BYTES];
        private int length = 0;
        private int count = 0;
        private int entryBlock = 0;

        Blocks(Code code, Reading reading) {
            this.code = code;
            this.reading = reading;
        }

        int count() {
            return count;
        }

        int entryBlock() {
            return entryBlock;
        }

        boolean isBlock(int block) {
            return block >= 0 && block < count;
        }

        int firstPlace(int block) {
            return block >= 0 && block < count ? firsts[block] : 0;
        }

        int lastPlace(int block) {
            return block >= 0 && block < count ? lasts[block] : 0;
        }

        int instructions(int block) {
            return block >= 0 && block < count ? many[block] : 0;
        }

        int stepCount(int block) {
            return block >= 0 && block < count ? stepCounts[block] : 0;
        }

        /** The block that a step goes to, -1 for none: no block begins where nothing is wholly there. */
        int stepTo(int block, int index) {
            if (block < 0 || block >= count) {
                return -1;
            }
            int place = index == 0 ? goes[block] : passes[block];
            if (tables[block] >= 0) {
                place = code.at(tables[block] + index);
            }
            return place >= 0 && place < length ? blockAt[place] : -1;
        }

        void divide(int function) {
            length = Math.min(code.count(), MOST_BYTES);
            for (int place = 0; place < length; place++) {
                isFirst[place] = false;
                isWalkedTo[place] = false;
                blockAt[place] = -1;
            }
            int entry = reading.entryPlace(function);
            begin(entry);
            for (int place = 0; place < length; place++) {
                if (reading.has(function, place)) {
                    part(function, place);
                }
            }
            count = 0;
            for (int place = 0; place < length; place++) {
                if (isFirst[place] && count < firsts.length) {
                    blockAt[place] = count;
                    firsts[count] = place;
                    extend(count);
                    count++;
                }
            }
            entryBlock = entry >= 0 && entry < length ? blockAt[entry] : 0;
        }

        private boolean begins(int place) {
            return place >= 0 && place < length && isFirst[place];
        }

        private void begin(int place) {
            if (place >= 0 && place < length) {
                isFirst[place] = true;
            }
        }

        private void part(int function, int place) {
            int op = code.op(place);
            boolean isJump = op == JUMP || op == CHOICE || op == TABLE;
            int steps = reading.wayCount(place);
            for (int i = 0; i < steps; i++) {
                int to = reading.way(place, i);
                if (isJump) {
                    begin(to);
                } else {
                    arrive(to);
                }
            }
            int behind = place + code.span(place);
            if (isJump && reading.has(function, behind)) {
                begin(behind);
            }
        }

        /** A second instruction walking to the place makes it begin a block. */
        private void arrive(int place) {
            if (place < 0 || place >= length) {
                return;
            }
            if (isWalkedTo[place]) {
                begin(place);
            }
            isWalkedTo[place] = true;
        }

        private void extend(int block) {
            if (block < 0 || block >= MOST_BYTES) {
                return;
            }
            int place = firsts[block];
            int sum = 1;
            for (int i = 0; i < MOST_BYTES && reading.wayCount(place) == 1; i++) {
                int to = reading.way(place, 0);
                if (to < 0 || begins(to)) {
                    break;
                }
                place = to;
                sum++;
            }
            lasts[block] = place;
            many[block] = sum;
            stepCounts[block] = reading.wayCount(place);
            goes[block] = stepCounts[block] > 0 ? reading.way(place, 0) : -1;
            passes[block] = stepCounts[block] > 1 ? reading.way(place, 1) : -1;
            tables[block] = code.op(place) == TABLE ? code.at(place + 1) : -1;
        }
    }

    /** The order of the blocks of the studied function, which are ahead of which, its loops and meetings. */
    private static final class Ways {
        private final Blocks blocks;
        private final Sets ahead = new Sets();
        private final Sets without = new Sets();
        private final int[] orders = new int[MOST_BYTES];
        private final int[] inOrder = new int[MOST_BYTES];
        private final int[] cursor = new int[MOST_BYTES];
        private final int[] stack = new int[MOST_BYTES];
        private final int[] nearests = new int[MOST_BYTES];
        private final int[] arrivals = new int[MOST_BYTES];
        private final int[] loops = new int[MOST_BYTES];
        private final boolean[] isLoopHead = new boolean[MOST_BYTES];
        private final boolean[] isSeen = new boolean[MOST_BYTES];
        private final int[] firstMeet = new int[MOST_BYTES];
        private final int[] afterMeet = new int[MOST_BYTES];
        private int leapCount = 0;
        private int count = 0;

        Ways(Blocks blocks) {
            this.blocks = blocks;
        }

        int leapCount() {
            return leapCount;
        }

        int orderOf(int block) {
            return isBlock(block) ? orders[block] : -1;
        }

        int nearestTo(int block) {
            return isBlock(block) ? nearests[block] : -1;
        }

        int loopsAround(int block) {
            return isBlock(block) ? loops[block] : 0;
        }

        boolean heads(int block) {
            return isBlock(block) && isLoopHead[block];
        }

        boolean meets(int block) {
            return isBlock(block) && arrivals[block] > 1;
        }

        /** The first in the order of the meetings whose nearest one ahead is the block, -1 for none. */
        int firstMeeting(int block) {
            return isBlock(block) ? firstMeet[block] : -1;
        }

        int meetingAfter(int meeting) {
            return isBlock(meeting) ? afterMeet[meeting] : -1;
        }

        /** How a step is written: '$', '^', '@' or '!', or INLINE if the block stands there. */
        char signOf(int from, int to) {
            if (!isBlock(from) || !isBlock(to)) {
                return '$';
            }
            if (orders[to] <= orders[from]) {
                return ahead.holds(from, to) ? '^' : '@';
            }
            return arrivals[to] > 1 ? '!' : INLINE;
        }

        void arrange() {
            count = Math.min(blocks.count(), MOST_BYTES);
            clear();
            sort();
            findAhead();
            findNearest();
            tellSteps();
            for (int block = 0; block < count; block++) {
                if (isLoopHead[block]) {
                    countLoop(block);
                }
            }
            linkMeetings();
        }

        /** Finds the blocks ahead once more, by leaving each block out, and compares. */
        boolean isNearestProven() {
            for (int block = 0; block < count; block++) {
                walkWithout(block);
            }
            for (int block = 0; block < count; block++) {
                if (block != blocks.entryBlock() && !isLastAhead(nearests[block], block)) {
                    return false;
                }
            }
            return true;
        }

        private boolean isBlock(int block) {
            return block >= 0 && block < count;
        }

        private void clear() {
            leapCount = 0;
            for (int block = 0; block < count; block++) {
                orders[block] = -1;
                inOrder[block] = 0;
                cursor[block] = 0;
                nearests[block] = -1;
                arrivals[block] = 0;
                loops[block] = 0;
                isLoopHead[block] = false;
                isSeen[block] = false;
                firstMeet[block] = -1;
                afterMeet[block] = -1;
            }
        }

        private void sort() {
            int left = count;
            int to = blocks.entryBlock();
            int top = 0;
            for (int turn = 0; turn < MANY && (top > 0 || turn == 0) && top <= count; turn++) {
                if (isBlock(to) && top < count) {
                    isSeen[to] = true;
                    stack[top] = to;
                    top++;
                } else if (top > 0) {
                    top--;
                    left--;
                    place(stack[top], left);
                }
                to = top > 0 ? unseenStep(stack[top - 1]) : -1;
            }
        }

        private int unseenStep(int block) {
            if (block < 0 || block >= count) {
                return -1;
            }
            int many = blocks.stepCount(block);
            for (int i = cursor[block]; i < many; i++) {
                int to = blocks.stepTo(block, i);
                if (to >= 0 && to < count && !isSeen[to]) {
                    cursor[block] = i + 1;
                    return to;
                }
            }
            cursor[block] = many;
            return -1;
        }

        private void place(int block, int order) {
            if (isBlock(block) && isBlock(order)) {
                orders[block] = order;
                inOrder[order] = block;
            }
        }

        /** From all blocks being ahead of all others, each step takes away those that it passes by. */
        private void findAhead() {
            for (int block = 0; block < count; block++) {
                ahead.fill(block);
            }
            ahead.clear(blocks.entryBlock());
            ahead.add(blocks.entryBlock(), blocks.entryBlock());
            boolean isChanged = true;
            for (int round = 0; isChanged && round < MANY; round++) {
                isChanged = false;
                for (int i = 0; i < count; i++) {
                    if (narrowSteps(inOrder[i])) {
                        isChanged = true;
                    }
                }
            }
        }

        private boolean narrowSteps(int block) {
            boolean isChanged = false;
            int many = blocks.stepCount(block);
            for (int i = 0; i < many; i++) {
                if (ahead.narrow(blocks.stepTo(block, i), block)) {
                    isChanged = true;
                }
            }
            return isChanged;
        }

        /** All that are ahead of a block stand in front of it in the order, the nearest one last. */
        private void findNearest() {
            for (int order = 1; order < count; order++) {
                int block = inOrder[order];
                int i = order - 1;
                for (int turn = 0; turn < order && i > 0 && !ahead.holds(block, inOrder[i]); turn++) {
                    i--;
                }
                if (isBlock(block)) {
                    nearests[block] = inOrder[i];
                }
            }
        }

        private void tellSteps() {
            for (int block = 0; block < count; block++) {
                int many = blocks.stepCount(block);
                for (int i = 0; i < many; i++) {
                    tellStep(block, blocks.stepTo(block, i));
                }
            }
        }

        private void tellStep(int from, int to) {
            if (!isBlock(from) || !isBlock(to)) {
                return;
            }
            if (orders[to] > orders[from]) {
                arrivals[to]++;
            } else if (ahead.holds(from, to)) {
                isLoopHead[to] = true;
            } else {
                leapCount++;
            }
        }

        private void countLoop(int head) {
            for (int block = 0; block < count; block++) {
                isSeen[block] = block == head;
            }
            boolean isChanged = true;
            for (int round = 0; isChanged && round <= MOST_BYTES; round++) {
                isChanged = false;
                for (int i = count - 1; i >= 0; i--) {
                    if (staysInLoop(inOrder[i], head)) {
                        isChanged = true;
                    }
                }
            }
            for (int block = 0; block < count; block++) {
                if (isSeen[block]) {
                    loops[block]++;
                }
            }
        }

        /** Marks a block that is not marked, and from which a step goes back to the head or on to one that is marked. */
        private boolean staysInLoop(int block, int head) {
            if (block < 0 || block >= count || isSeen[block]) {
                return false;
            }
            int many = blocks.stepCount(block);
            for (int i = 0; i < many; i++) {
                int to = blocks.stepTo(block, i);
                if (to >= 0 && to < count && (to == head ? isBack(block, to) : isSeen[to])) {
                    isSeen[block] = true;
                    return true;
                }
            }
            return false;
        }

        private boolean isBack(int from, int to) {
            return from >= 0 && from < count && to >= 0 && to < count && orders[to] <= orders[from] && ahead.holds(from, to);
        }

        /** From the last in the order, each put in front, so that the lists rise. */
        private void linkMeetings() {
            for (int order = count - 1; order >= 0; order--) {
                int block = inOrder[order];
                int near = nearestTo(block);
                if (meets(block) && isBlock(near)) {
                    afterMeet[block] = firstMeet[near];
                    firstMeet[near] = block;
                }
            }
        }

        private void walkWithout(int out) {
            without.clear(out);
            int top = 0;
            if (out != blocks.entryBlock() && stack.length > 0) {
                without.add(out, blocks.entryBlock());
                stack[0] = blocks.entryBlock();
                top = 1;
            }
            for (int turn = 0; turn <= MOST_BYTES && top > 0 && top <= stack.length; turn++) {
                top--;
                top = pushUnseen(out, stack[top], top);
            }
        }

        private int pushUnseen(int out, int block, int top) {
            int many = blocks.stepCount(block);
            int now = top;
            for (int i = 0; i < many; i++) {
                int to = blocks.stepTo(block, i);
                if (to >= 0 && to != out && !without.holds(out, to) && now >= 0 && now < stack.length) {
                    without.add(out, to);
                    stack[now] = to;
                    now++;
                }
            }
            return now;
        }

        /** All others that are ahead of the block are ahead of the near one too. */
        private boolean isLastAhead(int near, int block) {
            if (near == block || !isBlock(near) || without.holds(near, block)) {
                return false;
            }
            for (int out = 0; out < count; out++) {
                if (out != block && out != near && !without.holds(out, block) && without.holds(out, near)) {
                    return false;
                }
            }
            return true;
        }
    }

    /** What is live: where an instruction leads to is the same in all functions, so this is too. */
    private static final class Life {
        private final Code code;
        private final Reading reading;
        private final int[] ahead = new int[MOST_BYTES];

        Life(Code code, Reading reading) {
            this.code = code;
            this.reading = reading;
        }

        int aheadOf(int place) {
            return place >= 0 && place < code.count() && place < ahead.length ? ahead[place] : 0;
        }

        boolean idles(int place) {
            int op = code.op(place);
            boolean isFree = op == NUMBER || op == COPY || op == LOAD || op == ADD || op == SUBTRACT || op == MULTIPLY;
            return isFree && (made(place) & behind(place)) == 0;
        }

        void tell() {
            int many = Math.min(code.count(), ahead.length);
            for (int place = 0; place < many; place++) {
                ahead[place] = 0;
            }
            boolean isChanged = true;
            for (int round = 0; isChanged && round <= REGISTERS * MOST_BYTES; round++) {
                isChanged = false;
                for (int place = many - 1; place >= 0; place--) {
                    int now = used(place) | behind(place) & ~made(place);
                    isChanged = isChanged || now != ahead[place];
                    ahead[place] = now;
                }
            }
        }

        private int behind(int place) {
            int all = 0;
            int many = reading.wayCount(place);
            for (int i = 0; i < many; i++) {
                all |= aheadOf(reading.way(place, i));
            }
            return all;
        }

        private int used(int place) {
            switch (code.op(place)) {
                case COPY:
                case OUT:
                case STORE:
                case TABLE:
                    return 1 << code.minor(place);
                case ADD:
                case SUBTRACT:
                case MULTIPLY:
                case DIVIDE:
                case COMPARE:
                    return 1 << code.major(place) | 1 << code.minor(place);
                case CALL:
                case RETURN:
                    return ALL_REGISTERS;
                default:
                    return 0;
            }
        }

        private int made(int place) {
            switch (code.op(place)) {
                case NUMBER:
                case IN:
                case LOAD:
                    return 1 << code.minor(place);
                case COPY:
                case ADD:
                case SUBTRACT:
                case MULTIPLY:
                case DIVIDE:
                    return 1 << code.major(place);
                case CALL:
                    return ALL_REGISTERS;
                default:
                    return 0;
            }
        }
    }

    /** Goes through the blocks of the studied function as they stand one in the other in its source. */
    private static final class Tour {
        /** What is met: a block begins, a step, the end of a block's steps, a meeting, the end of a block, and of all. */
        private static final int OPEN = 1;
        private static final int STEP = 2;
        private static final int SHUT = 3;
        private static final int PART = 4;
        private static final int CLOSE = 5;
        private static final int END = 6;

        private final Code code;
        private final Blocks blocks;
        private final Ways ways;
        private final boolean isNextFirst;
        private final int[] stack = new int[MOST_BYTES];
        private final int[] stage = new int[MOST_BYTES];
        private final int[] meeting = new int[MOST_BYTES];
        private final int[] times = new int[MOST_BYTES];
        private int top = 0;
        private int opening = -1;
        private int block = 0;
        private int index = 0;
        private int to = -1;
        private char sign = INLINE;

        Tour(Code code, Blocks blocks, Ways ways, boolean isNextFirst) {
            this.code = code;
            this.blocks = blocks;
            this.ways = ways;
            this.isNextFirst = isNextFirst;
        }

        /** The block that is met, or of which the step is. */
        int block() {
            return block;
        }

        int index() {
            return index;
        }

        int target() {
            return to;
        }

        /** INLINE if the block to which the step goes stands there: it is met next. */
        char mark() {
            return sign;
        }

        void start() {
            for (int i = 0; i < blocks.count() && i < times.length; i++) {
                times[i] = 0;
            }
            top = 0;
            opening = blocks.entryBlock();
        }

        boolean isEachOnce() {
            for (int i = 0; i < blocks.count() && i < times.length; i++) {
                if (times[i] != 1) {
                    return false;
                }
            }
            return true;
        }

        int advance() {
            if (opening >= 0) {
                return open();
            }
            if (top <= 0 || top > stack.length) {
                return END;
            }
            block = stack[top - 1];
            if (block < 0 || block >= stage.length) {
                return END;
            }
            int turn = stage[block];
            int steps = blocks.stepCount(block);
            if (turn < steps) {
                stage[block]++;
                return take(turn);
            }
            if (turn == steps) {
                stage[block]++;
                return SHUT;
            }
            if (meeting[block] >= 0) {
                opening = meeting[block];
                meeting[block] = ways.meetingAfter(opening);
                return PART;
            }
            top--;
            return CLOSE;
        }

        private int open() {
            block = opening;
            opening = -1;
            if (block < 0 || block >= stage.length || top < 0 || top >= stack.length) {
                return END;
            }
            times[block]++;
            stage[block] = 0;
            meeting[block] = ways.firstMeeting(block);
            stack[top] = block;
            top++;
            return OPEN;
        }

        private int take(int turn) {
            boolean isTurned = isNextFirst && code.op(blocks.lastPlace(block)) == CHOICE;
            index = isTurned ? 1 - turn : turn;
            to = blocks.stepTo(block, index);
            sign = ways.signOf(block, to);
            if (sign == INLINE) {
                opening = to;
            }
            return STEP;
        }
    }

    /** Writes the source of the studied function. */
    private static final class Scribe {
        private static final String REGISTER_SIGNS = "abcd";
        private static final String CHOICE_SIGNS = "=#<]";
        private static final String ARITHMETIC_SIGNS = "=+-*/~";
        private static final int STEP_SIGNS = 6;
        private static final int INSTRUCTION_SIGNS = 8;
        private static final int BLOCK_SIGNS = 16;
        private static final int MOST_SIGNS = 65536;

        private final Code code;
        private final Blocks blocks;
        private final Ways ways;
        private final Life life;
        private final Tour tour;
        private char[] text = new char[256];
        private int count = 0;
        private boolean isTidied = false;

        Scribe(Code code, Blocks blocks, Ways ways, Life life) {
            this.code = code;
            this.blocks = blocks;
            this.ways = ways;
            this.life = life;
            tour = new Tour(code, blocks, ways, false);
        }

        int count() {
            return count;
        }

        char[] text() {
            return text;
        }

        char at(int place) {
            return place >= 0 && place < count && place < text.length ? text[place] : ' ';
        }

        /** Whether each block stood just once in what was written last. */
        boolean isEachOnce() {
            return tour.isEachOnce();
        }

        void write(boolean isTidied) {
            this.isTidied = isTidied;
            makeRoom();
            count = 0;
            tour.start();
            int met = tour.advance();
            for (int turn = 0; turn < MANY && met != Tour.END; turn++) {
                switch (met) {
                    case Tour.OPEN:
                        writeBlock(tour.block());
                        break;
                    case Tour.STEP:
                        writeStep();
                        break;
                    case Tour.SHUT:
                        writeShut(tour.block());
                        break;
                    case Tour.PART:
                        put('}');
                        break;
                    default:
                        writeClose(tour.block());
                        break;
                }
                met = tour.advance();
            }
        }

        private void writeBlock(int block) {
            if (ways.heads(block)) {
                put('L');
                put('{');
            }
            int meeting = ways.firstMeeting(block);
            for (int i = 0; i < MOST_BYTES && meeting >= 0; i++) {
                put('{');
                meeting = ways.meetingAfter(meeting);
            }
            int place = blocks.firstPlace(block);
            int many = blocks.instructions(block);
            for (int i = 0; i < many; i++) {
                if (!isTidied || !life.idles(place)) {
                    writeInstruction(place);
                }
                place += code.span(place);
            }
        }

        private void writeStep() {
            if (tour.index() > 0) {
                put(':');
            }
            if (tour.mark() == INLINE) {
                return;
            }
            put(tour.mark());
            if (tour.mark() != '$') {
                putNumber(blocks.firstPlace(tour.target()));
                put(';');
            }
        }

        private void writeShut(int block) {
            int op = code.op(blocks.lastPlace(block));
            if (op == CHOICE || op == TABLE) {
                put(')');
            }
        }

        private void writeClose(int block) {
            if (ways.heads(block)) {
                put('}');
            }
        }

        /** The row grows before it is written, by what the signs can come to at most. */
        private void makeRoom() {
            int most = 0;
            for (int block = 0; block < blocks.count(); block++) {
                most += BLOCK_SIGNS;
                most += INSTRUCTION_SIGNS * blocks.instructions(block);
                most += STEP_SIGNS * blocks.stepCount(block);
            }
            if (most > text.length && most <= MOST_SIGNS) {
                text = new char[Math.max(most, Math.min(2 * text.length, MOST_SIGNS))];
            }
        }

        private void writeInstruction(int place) {
            int op = code.op(place);
            char major = signIn(REGISTER_SIGNS, code.major(place));
            char minor = signIn(REGISTER_SIGNS, code.minor(place));
            switch (op) {
                case HALT:
                    put('.');
                    break;
                case NUMBER:
                    put(minor);
                    put('=');
                    putNumber((byte) code.at(place + 1));
                    put(';');
                    break;
                case COPY:
                case ADD:
                case SUBTRACT:
                case MULTIPLY:
                case DIVIDE:
                case COMPARE:
                    putThree(major, signIn(ARITHMETIC_SIGNS, op - COPY), minor);
                    break;
                case OUT:
                    putTwo('>', minor);
                    break;
                case IN:
                    putTwo('<', minor);
                    break;
                case LOAD:
                    put(minor);
                    put('=');
                    putTwo('x', cellSign(place));
                    break;
                case STORE:
                    put('x');
                    putThree(cellSign(place), '=', minor);
                    break;
                default:
                    writeBranch(op, place, minor);
                    break;
            }
        }

        private void writeBranch(int op, int place, char minor) {
            if (op == NONE) {
                put('%');
            } else if (op == RETURN) {
                put(',');
            } else if (op == CALL) {
                put('(');
                putNumber(code.at(place + 1));
                put(')');
                put(';');
            } else if (op == CHOICE) {
                put(signIn(CHOICE_SIGNS, (code.at(place) & 15) - 1));
                put('(');
            } else if (op == TABLE) {
                put('[');
                put(minor);
                put('(');
            }
        }

        private static char signIn(String signs, int index) {
            return index >= 0 && index < signs.length() ? signs.charAt(index) : ' ';
        }

        private char cellSign(int place) {
            return (char) ('0' + code.at(place + 1));
        }

        private void putTwo(char one, char two) {
            put(one);
            put(two);
            put(';');
        }

        private void putThree(char one, char two, char three) {
            put(one);
            put(two);
            put(three);
            put(';');
        }

        private void putNumber(int number) {
            int rest = number;
            if (rest < 0) {
                put('-');
                rest = -rest;
            }
            if (rest >= 100) {
                put((char) ('0' + rest / 100));
            }
            if (rest >= 10) {
                put((char) ('0' + rest / 10 % 10));
            }
            put((char) ('0' + rest % 10));
        }

        private void put(char sign) {
            if (count >= 0 && count < text.length) {
                text[count] = sign;
                count++;
            }
        }
    }

    /** Compiles the sources of the functions, one behind the other. */
    private static final class Builder {
        private final Code code;
        private final Blocks blocks;
        private final Life life;
        private final Tour tour;
        private final Code result = new Code();
        private final int[] blockPlace = new int[MOST_BYTES];
        private final int[] slot = new int[MOST_BYTES];
        private final int[] farAt = new int[MOST_COMPILED];
        private final int[] farTo = new int[MOST_COMPILED];
        private final int[] callAt = new int[MOST_COMPILED];
        private final int[] callTo = new int[MOST_COMPILED];
        private final int[] functionPlace = new int[MOST_BYTES];
        private int farCount = 0;
        private int callCount = 0;
        private int length = 0;
        private boolean isTidied = false;

        Builder(Code code, Blocks blocks, Ways ways, Life life) {
            this.code = code;
            this.blocks = blocks;
            this.life = life;
            tour = new Tour(code, blocks, ways, true);
        }

        /** Told in full even if it is more than there is room for. */
        int count() {
            return length;
        }

        Code result() {
            return result;
        }

        void start(boolean isFirstThere) {
            length = 0;
            callCount = 0;
            for (int place = 0; place < functionPlace.length; place++) {
                functionPlace[place] = NOWHERE;
            }
            if (!isFirstThere) {
                put(JUMP_BYTE);
                put(NOWHERE);
            }
        }

        void write(int entry, boolean isTidied) {
            this.isTidied = isTidied;
            if (entry >= 0 && entry < functionPlace.length) {
                functionPlace[entry] = length;
            }
            farCount = 0;
            tour.start();
            int met = tour.advance();
            for (int turn = 0; turn < MANY && met != Tour.END; turn++) {
                if (met == Tour.OPEN) {
                    writeBlock(tour.block());
                } else if (met == Tour.STEP) {
                    writeStep(tour.block());
                }
                met = tour.advance();
            }
            for (int i = 0; i < farCount && i < farAt.length; i++) {
                int to = farTo[i];
                result.put(farAt[i], to >= 0 && to < blockPlace.length ? blockPlace[to] : NOWHERE);
            }
        }

        void finish() {
            for (int i = 0; i < callCount && i < callAt.length; i++) {
                int to = callTo[i];
                result.put(callAt[i], to >= 0 && to < functionPlace.length ? functionPlace[to] : NOWHERE);
            }
            result.cut(length);
            result.decode();
        }

        private void writeBlock(int block) {
            if (block >= 0 && block < blockPlace.length) {
                blockPlace[block] = length;
            }
            int place = blocks.firstPlace(block);
            int many = blocks.instructions(block);
            for (int i = 0; i < many; i++) {
                if (!isTidied || !life.idles(place)) {
                    writeInstruction(block, place);
                }
                place += code.span(place);
            }
        }

        /** A step of a table, and that to where a jump with a flag goes, is put into the slot that waits for it. */
        private void writeStep(int block) {
            int op = code.op(blocks.lastPlace(block));
            boolean isSlotted = op == TABLE || op == CHOICE && tour.index() == 0;
            if (isSlotted && block >= 0 && block < slot.length) {
                result.put(slot[block] + tour.index(), length);
            }
            if (tour.mark() == INLINE) {
                return;
            }
            put(JUMP_BYTE);
            if (tour.mark() != '$' && farCount >= 0 && farCount < farAt.length) {
                farAt[farCount] = length;
                farTo[farCount] = tour.target();
                farCount++;
            }
            put(NOWHERE);
        }

        private void writeInstruction(int block, int place) {
            int op = code.op(place);
            if (op == HALT) {
                put(HALT_BYTE);
            } else if (op == NONE) {
                put(NONE_BYTE);
            } else if (op == RETURN) {
                put(RETURN_BYTE);
            } else if (op == CALL) {
                writeCall(code.at(place + 1));
            } else if (op == CHOICE || op == TABLE) {
                writeJump(block, place);
            } else if (op != JUMP) {
                int span = code.span(place);
                for (int i = 0; i < span; i++) {
                    put(code.at(place + i));
                }
            }
        }

        private void writeCall(int callee) {
            put(CALL_BYTE);
            if (callCount >= 0 && callCount < callAt.length) {
                callAt[callCount] = length;
                callTo[callCount] = callee;
                callCount++;
            }
            put(NOWHERE);
        }

        private void writeJump(int block, int place) {
            put(code.at(place));
            int from = length;
            int many = 1;
            if (code.op(place) == TABLE) {
                many = code.at(place + 2);
                from = length + 2;
                put(from);
                put(many);
            }
            if (block >= 0 && block < slot.length) {
                slot[block] = from;
            }
            for (int i = 0; i < many; i++) {
                put(NOWHERE);
            }
        }

        private void put(int value) {
            result.put(length, value);
            length++;
        }
    }

    /** Runs a code, and keeps what came out. */
    private static final class Machine {
        private final int[] registers = new int[REGISTERS];
        private final int[] cells = new int[CELLS];
        private final int[] kept = new int[MOST_KEPT];
        private final int[] outs = new int[MOST_OUTPUTS];
        private int keptCount = 0;
        private int outCount = 0;
        private int stepCount = 0;
        private int inCount = 0;
        private int flag = 0;
        private int place = 0;

        int outCount() {
            return outCount;
        }

        int outAt(int index) {
            return index >= 0 && index < outCount && index < outs.length ? outs[index] : 0;
        }

        int stepCount() {
            return stepCount;
        }

        char go(Code code, int[] inputs, int inputCount, int limit) {
            reset();
            char end = UNENDED;
            for (int turn = 0; turn <= limit && end == UNENDED; turn++) {
                int op = code.op(place);
                if (op == BEYOND) {
                    end = 'b';
                } else if (op == NONE) {
                    end = 'i';
                } else if (stepCount >= limit) {
                    end = 's';
                } else {
                    stepCount++;
                    end = op == IN ? take(code, inputs, inputCount) : perform(code, op);
                }
            }
            return end;
        }

        private void reset() {
            for (int i = 0; i < registers.length; i++) {
                registers[i] = 0;
            }
            for (int i = 0; i < cells.length; i++) {
                cells[i] = 0;
            }
            keptCount = 0;
            outCount = 0;
            stepCount = 0;
            inCount = 0;
            flag = 0;
            place = 0;
        }

        private int register(int which) {
            return which >= 0 && which < registers.length ? registers[which] : 0;
        }

        private void become(int which, int value) {
            if (which >= 0 && which < registers.length) {
                registers[which] = value;
            }
        }

        private char take(Code code, int[] inputs, int inputCount) {
            if (inCount < 0 || inCount >= inputCount || inCount >= inputs.length) {
                return 'e';
            }
            become(code.minor(place), inputs[inCount]);
            inCount++;
            place++;
            return UNENDED;
        }

        private char perform(Code code, int op) {
            int minor = code.minor(place);
            int number = code.at(place + 1);
            switch (op) {
                case HALT:
                    return 'h';
                case NUMBER:
                    become(minor, (byte) number);
                    break;
                case COPY:
                case ADD:
                case SUBTRACT:
                case MULTIPLY:
                case DIVIDE:
                    return reckon(op, code.major(place), minor);
                case COMPARE:
                    flag = Integer.compare(register(code.major(place)), register(minor));
                    break;
                case OUT:
                    if (outCount < 0 || outCount >= outs.length) {
                        return 'o';
                    }
                    outs[outCount] = register(minor);
                    outCount++;
                    break;
                case LOAD:
                    become(minor, number >= 0 && number < cells.length ? cells[number] : 0);
                    break;
                case STORE:
                    if (number >= 0 && number < cells.length) {
                        cells[number] = register(minor);
                    }
                    break;
                default:
                    return branch(code, op);
            }
            place += code.span(place);
            return UNENDED;
        }

        private char reckon(int op, int major, int minor) {
            int one = register(major);
            int two = register(minor);
            if (op == DIVIDE && two == 0) {
                return 'z';
            }
            switch (op) {
                case ADD:
                    become(major, one + two);
                    break;
                case SUBTRACT:
                    become(major, one - two);
                    break;
                case MULTIPLY:
                    become(major, one * two);
                    break;
                case DIVIDE:
                    become(major, two == 0 ? 0 : one / two);
                    break;
                default:
                    become(major, two);
                    break;
            }
            place++;
            return UNENDED;
        }

        private char branch(Code code, int op) {
            int target = code.at(place + 1);
            if (op == TABLE) {
                int index = register(code.minor(place));
                if (index < 0 || index >= code.at(place + 2)) {
                    return 't';
                }
                place = code.at(target + index);
            } else if (op == CALL) {
                if (keptCount < 0 || keptCount >= kept.length) {
                    return 'c';
                }
                kept[keptCount] = place + code.span(place);
                keptCount++;
                place = target;
            } else if (op == RETURN) {
                if (keptCount <= 0 || keptCount > kept.length) {
                    return 'h';
                }
                keptCount--;
                place = kept[keptCount];
            } else {
                place = isTaken(code.at(place) & 15) ? target : place + code.span(place);
            }
            return UNENDED;
        }

        private boolean isTaken(int which) {
            switch (which) {
                case 1:
                    return flag == 0;
                case 2:
                    return flag != 0;
                case 3:
                    return flag < 0;
                case 4:
                    return flag >= 0;
                default:
                    return true;
            }
        }
    }

    /** The sources that are kept, without the places that are told in them. */
    private static final class Shelf {
        private static final int MOST_SIGNS = 1048576;

        private char[] row = new char[64];
        private final int[] starts = new int[MOST_BYTES + 1];
        private int count = 0;

        int count() {
            return count;
        }

        void empty() {
            count = 0;
        }

        void add(char[] text, int length) {
            if (count >= 0 && count < starts.length - 1) {
                starts[count + 1] = append(text, length);
                count++;
            }
        }

        /** The first that is kept with this source, -1 for none; the source is laid behind all that are kept. */
        int find(char[] text, int length) {
            int start = startOf(count);
            int many = append(text, length) - start;
            for (int i = 0; i < count; i++) {
                if (startOf(i + 1) - startOf(i) == many && isSame(startOf(i), start, many)) {
                    return i;
                }
            }
            return -1;
        }

        private int startOf(int which) {
            return which > 0 && which < starts.length ? starts[which] : 0;
        }

        private boolean isSame(int one, int two, int many) {
            for (int i = 0; i < many; i++) {
                if (signAt(one + i) != signAt(two + i)) {
                    return false;
                }
            }
            return true;
        }

        private char signAt(int place) {
            return place >= 0 && place < row.length ? row[place] : ' ';
        }

        /** Lays a text behind what is kept, and tells where it ends. */
        private int append(char[] text, int length) {
            int end = startOf(count);
            makeRoom(end + length);
            boolean isPlace = false;
            for (int i = 0; i < length && i < text.length; i++) {
                char sign = text[i];
                boolean isDigit = sign >= '0' && sign <= '9';
                if (!(isPlace && isDigit) && end >= 0 && end < row.length) {
                    row[end] = sign;
                    end++;
                }
                isPlace = isPlace && isDigit || sign == '(' || sign == '^' || sign == '@' || sign == '!';
            }
            return end;
        }

        private void makeRoom(int need) {
            if (need > row.length && need <= MOST_SIGNS) {
                char[] wider = new char[Math.min(Math.max(need, 2 * row.length), MOST_SIGNS)];
                System.arraycopy(row, 0, wider, 0, row.length);
                row = wider;
            }
        }
    }
}
