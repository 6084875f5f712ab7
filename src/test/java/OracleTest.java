import java.util.ArrayList;
import java.util.List;
import java.util.NoSuchElementException;

/** Random bytes, entries, inputs and changes: every answer is the oracle's. */
public final class OracleTest {
    private static final int PROGRAMS = 4000;

    private final Due due = new Due("OracleTest");
    private final Programs programs = new Programs(20261119L);
    private Sourcewright x = new Sourcewright();
    private Oracle oracle = new Oracle();
    private List<String> kept = new ArrayList<>();
    private final int[] met = new int[8];

    public static void main(String[] args) {
        OracleTest test = new OracleTest();
        for (int i = 0; i < PROGRAMS; i++) {
            test.oneProgram();
        }
        System.out.println("OracleTest: functions " + test.met[0] + ", leaps " + test.met[1] + ", meetings " + test.met[2]
            + ", in two loops " + test.met[3] + ", doubts " + test.met[4] + ", too large " + test.met[5] + ", matched " + test.met[6]
            + ", idle " + test.met[7]);
        for (int i = 0; i < test.met.length; i++) {
            test.due.check(test.met[i] > 30, "the programs meet case " + i + " too seldom");
        }
        test.due.end();
    }

    private void oneProgram() {
        if (programs.chance(2)) {
            x = new Sourcewright();
            oracle = new Oracle();
            kept = new ArrayList<>();
        } else {
            due.same("wipe", x.wipe(), oracle.bytes.size());
            oracle.bytes.clear();
            oracle.told.clear();
        }
        for (int value : programs.make()) {
            x.type(value);
            oracle.bytes.add(value);
        }
        tellInputs();
        int entries = programs.chance(3) ? programs.below(5) : 0;
        for (int i = 0; i < entries; i++) {
            tellEntry(programs.below(oracle.bytes.size()));
        }
        compareAll();
        int changes = programs.below(4);
        for (int i = 0; i < changes; i++) {
            change();
            compareAll();
        }
    }

    private void tellInputs() {
        due.same("dry", x.dry(), oracle.inputs.size());
        oracle.inputs.clear();
        int many = programs.below(8);
        for (int i = 0; i < many; i++) {
            int value = programs.chance(6) ? Integer.MIN_VALUE + programs.below(2) : programs.below(9) - 3;
            oracle.inputs.add(value);
            due.same("input", x.input(value), oracle.inputs.size());
        }
    }

    private void tellEntry(int place) {
        if (place == 0 || oracle.told.contains(place)) {
            due.fails("entry(" + place + ")", UnsupportedOperationException.class, () -> x.entry(place));
        } else if (oracle.told.size() == 4) {
            due.fails("entry(" + place + ")", IllegalStateException.class, () -> x.entry(place));
        } else {
            oracle.told.add(place);
            due.same("entry", x.entry(place), oracle.told.size());
        }
    }

    private void change() {
        int place = programs.below(oracle.bytes.size());
        int which = programs.below(4);
        if (which == 0) {
            boolean is = programs.chance(2);
            due.same("tidy", x.tidy(is), oracle.isTidy);
            oracle.isTidy = is;
        } else if (which == 1) {
            tellEntry(place);
        } else if (which == 2 && oracle.bytes.size() < 120) {
            int value = programs.below(256);
            oracle.bytes.add(value);
            due.same("type", x.type(value), oracle.bytes.size());
        } else {
            int value = programs.below(256);
            due.same("set", x.set(place, value), oracle.bytes.get(place));
            oracle.bytes.set(place, value);
        }
    }

    private void compareAll() {
        oracle.read();
        due.about(oracle.bytes + " told " + oracle.told + " tidy " + oracle.isTidy + " ");
        int many = oracle.functions.size();
        due.same("functions", x.functions(), many);
        compareBytes();
        List<String> sources = new ArrayList<>();
        for (int function = 0; function < many; function++) {
            sources.add(oracle.functions.get(function).source());
        }
        for (int i = 0; i < many; i++) {
            int function = i % 2 == 0 ? i / 2 : many - 1 - i / 2;
            compareFunction(function, sources.get(function));
        }
        compareRuns();
        compareSums(sources);
    }

    private void compareBytes() {
        int doubts = 0;
        for (int place = 0; place < oracle.bytes.size(); place++) {
            int asked = place;
            due.at("place", place);
            due.same("byteAt", x.byteAt(place), oracle.bytes.get(place));
            due.same("kind", x.kind(place), oracle.kind(place));
            due.same("isInDoubt", x.isInDoubt(place), oracle.isInDoubt(place));
            Oracle.Instruction one = oracle.at(place);
            due.same("length", x.length(place), one == null || one.isAny("none") ? 0 : one.span());
            int sharers = 0;
            int having = -1;
            for (int function = oracle.functions.size() - 1; function >= 0; function--) {
                boolean has = oracle.functions.get(function).places.contains(place);
                sharers += has ? 1 : 0;
                having = has ? function : having;
            }
            due.same("sharers", x.sharers(place), sharers);
            if (having >= 0) {
                due.same("functionOf", x.functionOf(place), having);
            } else {
                due.fails("functionOf", NoSuchElementException.class, () -> x.functionOf(asked));
            }
            doubts += oracle.isInDoubt(place) ? 1 : 0;
        }
        met[4] += doubts;
        due.same("doubts", x.doubts(), doubts);
    }

    private void compareFunction(int function, String source) {
        Oracle.Function one = oracle.functions.get(function);
        due.at("function", function);
        met[0]++;
        met[1] += one.leaps();
        due.same("entryOf", x.entryOf(function), one.entry);
        due.same("leaps", x.leaps(function), one.leaps());
        due.same("blocks", x.blocks(function), one.blocks.size());
        boolean mayReturn = false;
        for (int place : one.places) {
            mayReturn = mayReturn || oracle.at(place).isAny("return");
        }
        due.same("mayReturn", x.mayReturn(function), mayReturn);
        for (int other = 0; other < oracle.functions.size(); other++) {
            int calls = 0;
            for (int place : one.places) {
                boolean isCall = oracle.at(place).isAny("call");
                calls += isCall && oracle.at(place).n() == oracle.functions.get(other).entry ? 1 : 0;
            }
            due.same("calls " + other, x.calls(function, other), calls);
        }
        for (int block = 0; block < one.blocks.size(); block++) {
            compareBlock(function, block);
        }
        due.same("meanBlock", x.meanBlock(function), (double) one.places.size() / (double) one.blocks.size());
        comparePlaces(function);
        due.same("source", x.source(function), source.length());
        StringBuilder signs = new StringBuilder();
        for (int i = 0; i < source.length(); i++) {
            signs.append(x.sign(function, i));
        }
        due.same("signs", signs.toString(), source);
        due.fails("sign", NoSuchElementException.class, () -> x.sign(function, source.length()));
    }

    private void compareBlock(int function, int block) {
        Oracle.Function one = oracle.functions.get(function);
        List<Integer> nexts = one.nexts(block);
        due.at("block", block);
        due.same("first", x.first(function, block), one.blocks.get(block).get(0));
        due.same("size", x.size(function, block), one.blocks.get(block).size());
        due.same("nexts", x.nexts(function, block), nexts.size());
        for (int i = 0; i < nexts.size(); i++) {
            due.same("next " + i, x.next(function, block, i), nexts.get(i));
        }
        due.fails("next", NoSuchElementException.class, () -> x.next(function, block, nexts.size()));
        if (block == one.entryBlock) {
            due.fails("nearest", NoSuchElementException.class, () -> x.nearest(function, block));
        } else {
            due.same("nearest", x.nearest(function, block), one.nearest(block));
        }
        due.same("order", x.order(function, block), one.order.indexOf(block));
        due.same("isHead", x.isHead(function, block), one.isHead(block));
        int depth = one.depth(block);
        due.same("depth", x.depth(function, block), depth);
        due.same("isMeeting", x.isMeeting(function, block), one.isMeeting(block));
        met[2] += one.isMeeting(block) ? 1 : 0;
        met[3] += depth > 1 ? 1 : 0;
    }

    private void comparePlaces(int function) {
        Oracle.Function one = oracle.functions.get(function);
        for (int place = -1; place <= oracle.bytes.size(); place++) {
            int asked = place;
            if (one.places.contains(place)) {
                boolean isIdle = oracle.isIdle(one, place);
                met[7] += isIdle ? 1 : 0;
                due.same("live " + place, x.live(function, place), oracle.live(place));
                due.same("isIdle " + place, x.isIdle(function, place), isIdle);
            } else {
                due.fails("live " + place, NoSuchElementException.class, () -> x.live(function, asked));
                due.fails("isIdle " + place, NoSuchElementException.class, () -> x.isIdle(function, asked));
            }
        }
    }

    private void compareRuns() {
        int limit = programs.chance(3) ? programs.below(12) : programs.below(2001);
        Oracle.Run forth = oracle.run(oracle.bytes, limit);
        compareRun("run(false, " + limit + ") ", x.run(false, limit), forth);
        List<Integer> compiled = oracle.compile();
        if (compiled.size() > 240) {
            met[5]++;
            due.fails("compiled", UnsupportedOperationException.class, () -> x.compiled());
            due.fails("compiledByte", UnsupportedOperationException.class, () -> x.compiledByte(999));
            due.fails("run", UnsupportedOperationException.class, () -> x.run(true, limit));
            due.fails("agree", UnsupportedOperationException.class, () -> x.agree(limit));
            compareRun("after the failed run ", forth.end(), forth);
            return;
        }
        due.same("compiled", x.compiled(), compiled.size());
        for (int i = 0; i < compiled.size(); i++) {
            due.same("compiledByte " + i, x.compiledByte(i), compiled.get(i));
        }
        due.fails("compiledByte", NoSuchElementException.class, () -> x.compiledByte(compiled.size()));
        Oracle.Run back = oracle.run(compiled, limit);
        due.same("agree " + limit, x.agree(limit), Oracle.isAgreed(forth, back));
        compareRun("run(true, " + limit + ") ", x.run(true, limit), back);
    }

    private void compareRun(String call, char end, Oracle.Run run) {
        due.same(call + "end", end, run.end());
        due.same(call + "steps", x.steps(), run.steps());
        due.same(call + "outputs", x.outputs(), run.outs().size());
        for (int i = 0; i < run.outs().size(); i++) {
            due.same(call + "output " + i, x.output(i), run.outs().get(i));
        }
        due.fails(call + "output", NoSuchElementException.class, () -> x.output(run.outs().size()));
    }

    private void compareSums(List<String> sources) {
        long sum = 7L;
        int codes = 0;
        for (int place = 0; place < oracle.bytes.size(); place++) {
            sum = 31L * sum + oracle.kind(place);
            codes += oracle.kind(place) == 'c' || oracle.kind(place) == 'o' ? 1 : 0;
        }
        for (int function = 0; function < sources.size(); function++) {
            sum = 31L * sum + oracle.functions.get(function).entry;
            sum = 31L * sum + sources.get(function).length();
        }
        due.same("checksum", x.checksum(), sum);
        due.same("codeShare", x.codeShare(), (float) codes / (float) oracle.bytes.size());
        due.same("isSound", x.isSound(), true);
        List<String> plain = new ArrayList<>();
        for (String source : sources) {
            plain.add(Oracle.withoutPlaces(source));
        }
        if (programs.chance(3)) {
            due.same("keep", x.keep(), sources.size());
            kept = plain;
        }
        for (int function = 0; function < plain.size(); function++) {
            int asked = function;
            int found = kept.indexOf(plain.get(function));
            if (found >= 0) {
                met[6]++;
                due.same("match " + function, x.match(function), found);
            } else {
                due.fails("match " + function, NoSuchElementException.class, () -> x.match(asked));
            }
        }
    }
}
