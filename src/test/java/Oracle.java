import java.util.ArrayList;
import java.util.HashMap;
import java.util.HashSet;
import java.util.List;
import java.util.Map;
import java.util.Set;
import java.util.TreeSet;

/** A second reader, written from the document in the plainest way: by search along ways, recursion and texts. */
final class Oracle {
    final List<Integer> bytes = new ArrayList<>();
    final List<Integer> told = new ArrayList<>();
    final List<Integer> inputs = new ArrayList<>();
    boolean isTidy = false;

    private final List<Instruction> decoded = new ArrayList<>();
    private Set<Integer> returning = new HashSet<>();
    private Set<Integer> walked = new TreeSet<>();
    final List<Integer> entries = new ArrayList<>();
    final List<Function> functions = new ArrayList<>();

    /** What a place of a code holds. */
    record Instruction(String op, int span, int s, int d, int x, int n, int m) {
        boolean isAny(String... ops) {
            for (String one : ops) {
                if (one.equals(op)) {
                    return true;
                }
            }
            return false;
        }
    }

    /** What a run answered. */
    record Run(char end, List<Integer> outs, int steps) {
    }

    /** One function, with its blocks in the order of their numbers. */
    final class Function {
        final int entry;
        final Set<Integer> places = new TreeSet<>();
        final List<List<Integer>> blocks = new ArrayList<>();
        final List<Integer> order = new ArrayList<>();
        int entryBlock;
        private final Map<Integer, List<Integer>> nextsOf = new HashMap<>();
        private final Map<Integer, Set<Integer>> reachedWithout = new HashMap<>();
        private final Map<Integer, Integer> nearestOf = new HashMap<>();
        private final Map<Integer, Boolean> meetingOf = new HashMap<>();

        Function(int entry) {
            this.entry = entry;
        }

        List<Integer> nexts(int block) {
            return nextsOf.computeIfAbsent(block, this::findNexts);
        }

        private List<Integer> findNexts(int block) {
            List<Integer> all = blocks.get(block);
            List<Integer> found = new ArrayList<>();
            for (int to : successors(all.get(all.size() - 1))) {
                found.add(to < 0 ? -1 : blockWith(to));
            }
            return found;
        }

        private int blockWith(int place) {
            for (int i = 0; i < blocks.size(); i++) {
                if (blocks.get(i).get(0) == place) {
                    return i;
                }
            }
            throw new AssertionError("no block begins at " + place);
        }

        Set<Integer> reachable(int from, int without) {
            Set<Integer> seen = new HashSet<>();
            reach(from, without, seen);
            return seen;
        }

        private void reach(int block, int without, Set<Integer> seen) {
            if (block >= 0 && block != without && seen.add(block)) {
                for (int to : nexts(block)) {
                    reach(to, without, seen);
                }
            }
        }

        boolean isAhead(int one, int other) {
            return one == other || !reachedWithout.computeIfAbsent(one, out -> reachable(entryBlock, out)).contains(other);
        }

        int nearest(int block) {
            return nearestOf.computeIfAbsent(block, this::findNearest);
        }

        private int findNearest(int block) {
            for (int near = 0; near < blocks.size(); near++) {
                if (near != block && isAhead(near, block) && isLastAhead(near, block)) {
                    return near;
                }
            }
            return -1;
        }

        private boolean isLastAhead(int near, int block) {
            for (int other = 0; other < blocks.size(); other++) {
                if (other != block && isAhead(other, block) && !isAhead(other, near)) {
                    return false;
                }
            }
            return true;
        }

        boolean isBack(int from, int to) {
            return order.indexOf(to) <= order.indexOf(from) && isAhead(to, from);
        }

        boolean isLeap(int from, int to) {
            return order.indexOf(to) <= order.indexOf(from) && !isAhead(to, from);
        }

        boolean isHead(int block) {
            for (int from = 0; from < blocks.size(); from++) {
                if (nexts(from).contains(block) && isBack(from, block)) {
                    return true;
                }
            }
            return false;
        }

        boolean isInLoop(int head, int block) {
            if (block == head) {
                return isHead(head);
            }
            for (int foot : reachable(block, head)) {
                if (nexts(foot).contains(head) && isBack(foot, head)) {
                    return true;
                }
            }
            return false;
        }

        int depth(int block) {
            int sum = 0;
            for (int head = 0; head < blocks.size(); head++) {
                sum += isHead(head) && isInLoop(head, block) ? 1 : 0;
            }
            return sum;
        }

        boolean isMeeting(int block) {
            return meetingOf.computeIfAbsent(block, this::findMeeting);
        }

        private boolean findMeeting(int block) {
            int sum = 0;
            for (int from = 0; from < blocks.size(); from++) {
                for (int to : nexts(from)) {
                    sum += to == block && !isBack(from, to) && !isLeap(from, to) ? 1 : 0;
                }
            }
            return sum >= 2;
        }

        int leaps() {
            int sum = 0;
            for (int from = 0; from < blocks.size(); from++) {
                for (int to : nexts(from)) {
                    sum += to >= 0 && isLeap(from, to) ? 1 : 0;
                }
            }
            return sum;
        }

        /** Meetings whose nearest one ahead is the block, as they stand in the order. */
        private List<Integer> meetings(int block) {
            List<Integer> found = new ArrayList<>();
            for (int one : order) {
                if (isMeeting(one) && nearest(one) == block) {
                    found.add(one);
                }
            }
            return found;
        }

        String source() {
            return whole(entryBlock);
        }

        private String whole(int block) {
            List<Integer> meetings = meetings(block);
            String text = rest(block, meetings);
            return isHead(block) ? "L{" + text + "}" : text;
        }

        private String rest(int block, List<Integer> meetings) {
            if (meetings.isEmpty()) {
                return itself(block);
            }
            int last = meetings.get(meetings.size() - 1);
            return "{" + rest(block, meetings.subList(0, meetings.size() - 1)) + "}" + whole(last);
        }

        private List<Integer> written(int block) {
            List<Integer> found = new ArrayList<>();
            for (int place : blocks.get(block)) {
                if (!isTidy || !isIdle(this, place)) {
                    found.add(place);
                }
            }
            return found;
        }

        private String itself(int block) {
            StringBuilder text = new StringBuilder();
            for (int place : written(block)) {
                text.append(signs(place));
            }
            List<Integer> all = blocks.get(block);
            Instruction last = at(all.get(all.size() - 1));
            List<Integer> nexts = nexts(block);
            if (last.isAny("halt")) {
                return text + ".";
            }
            if (last.isAny("return")) {
                return text + ",";
            }
            if (last.isAny("choice")) {
                char sign = "=#<]".charAt(last.x() - 1);
                return text.toString() + sign + "(" + step(block, nexts.get(0)) + ":" + step(block, nexts.get(1)) + ")";
            }
            if (last.isAny("table")) {
                List<String> steps = new ArrayList<>();
                for (int to : nexts) {
                    steps.add(step(block, to));
                }
                return text + "[" + "abcd".charAt(last.s()) + "(" + String.join(":", steps) + ")";
            }
            return nexts.isEmpty() ? text.toString() : text + step(block, nexts.get(0));
        }

        private String step(int from, int to) {
            String far = far(from, to);
            return far == null ? whole(to) : far;
        }

        /** Null if the block stands there. */
        private String far(int from, int to) {
            if (to < 0) {
                return "$";
            }
            String tail = blocks.get(to).get(0) + ";";
            if (isBack(from, to)) {
                return "^" + tail;
            }
            if (isLeap(from, to)) {
                return "@" + tail;
            }
            return isMeeting(to) ? "!" + tail : null;
        }

        /** A byte is a number, a mark of a place begins with ':', a byte that is that place with '>'. */
        private void compileWhole(int block, List<String> out) {
            List<Integer> meetings = meetings(block);
            compileItself(block, out);
            for (int meeting : meetings) {
                compileWhole(meeting, out);
            }
        }

        private String label(int block) {
            return "block" + entry + "." + block;
        }

        private void compileItself(int block, List<String> out) {
            out.add(":" + label(block));
            List<Integer> nexts = nexts(block);
            for (int place : written(block)) {
                Instruction one = at(place);
                if (one.isAny("halt", "return", "none")) {
                    out.add(one.isAny("halt") ? "0" : one.isAny("return") ? "134" : "208");
                } else if (one.isAny("call")) {
                    out.add("133");
                    out.add(entries.contains(one.n()) ? ">function" + one.n() : "255");
                } else if (!one.isAny("jump", "choice", "table")) {
                    for (int i = 0; i < one.span(); i++) {
                        out.add("" + bytes.get(place + i));
                    }
                }
            }
            List<Integer> all = blocks.get(block);
            Instruction last = at(all.get(all.size() - 1));
            if (last.isAny("choice")) {
                out.add("" + (128 + last.x()));
                out.add(">taken" + label(block));
                compileStep(block, nexts.get(1), out);
                out.add(":taken" + label(block));
                compileStep(block, nexts.get(0), out);
            } else if (last.isAny("table")) {
                out.add("" + (136 + last.s()));
                out.add(">table" + label(block));
                out.add("" + last.m());
                out.add(":table" + label(block));
                for (int i = 0; i < nexts.size(); i++) {
                    out.add(">step" + i + label(block));
                }
                for (int i = 0; i < nexts.size(); i++) {
                    out.add(":step" + i + label(block));
                    compileStep(block, nexts.get(i), out);
                }
            } else if (!nexts.isEmpty()) {
                compileStep(block, nexts.get(0), out);
            }
        }

        private void compileStep(int from, int to, List<String> out) {
            if (far(from, to) == null) {
                compileWhole(to, out);
            } else {
                out.add("128");
                out.add(to < 0 ? "255" : ">" + label(to));
            }
        }
    }

    void read() {
        decoded.clear();
        for (int place = 0; place < bytes.size(); place++) {
            decoded.add(instructionOf(bytes, place));
        }
        findReturning();
        walked = new TreeSet<>();
        Set<Integer> starts = new TreeSet<>();
        List<Integer> open = new ArrayList<>();
        open.add(0);
        open.addAll(told);
        while (!open.isEmpty()) {
            int start = open.remove(open.size() - 1);
            if (at(start) == null || !starts.add(start)) {
                continue;
            }
            Set<Integer> found = new TreeSet<>();
            walkFrom(start, found);
            walked.addAll(found);
            for (int place : found) {
                if (at(place).isAny("call")) {
                    open.add(at(place).n());
                }
            }
        }
        entries.clear();
        entries.addAll(starts);
        functions.clear();
        for (int entry : entries) {
            functions.add(makeFunction(entry));
        }
    }

    Instruction at(int place) {
        return place < 0 || place >= decoded.size() ? null : decoded.get(place);
    }

    /** Null if nothing is wholly there. */
    static Instruction instructionOf(List<Integer> row, int place) {
        if (place < 0 || place >= row.size()) {
            return null;
        }
        int value = row.get(place);
        int h = value / 16;
        int x = value % 16;
        String[] names = {"halt", "number", "copy", "add", "sub", "mul", "div", "compare", "", "out", "in", "load", "store"};
        String op = h < names.length ? names[h] : "none";
        if (h == 8) {
            op = x == 0 ? "jump" : x <= 4 ? "choice" : x == 5 ? "call" : x == 6 ? "return" : "none";
            op = x >= 8 && x <= 11 ? "table" : op;
        }
        int span = 1;
        if (Set.of("number", "load", "store", "jump", "choice", "call").contains(op)) {
            span = 2;
        } else if (op.equals("table")) {
            span = 3;
        }
        if (place + span > row.size()) {
            return null;
        }
        int n = span > 1 ? row.get(place + 1) : -1;
        int m = span > 2 ? row.get(place + 2) : -1;
        boolean isBad = Set.of("load", "store").contains(op) && n > 7;
        isBad = isBad || op.equals("table") && (m == 0 || n + m > row.size());
        return isBad ? new Instruction("none", 1, 0, 0, 0, -1, -1) : new Instruction(op, span, x % 4, x / 4, x, n, m);
    }

    private void findReturning() {
        returning = new HashSet<>();
        boolean isChanged = true;
        while (isChanged) {
            isChanged = false;
            for (int place = 0; place < bytes.size(); place++) {
                if (at(place) == null || returning.contains(place)) {
                    continue;
                }
                Set<Integer> found = new HashSet<>();
                walkFrom(place, found);
                for (int one : found) {
                    if (at(one).isAny("return")) {
                        returning.add(place);
                        isChanged = true;
                    }
                }
            }
        }
    }

    private void walkFrom(int place, Set<Integer> found) {
        if (at(place) != null && found.add(place)) {
            for (int to : successors(place)) {
                walkFrom(to, found);
            }
        }
    }

    /** Where an instruction leads to within a function, -1 for what is not wholly there. */
    List<Integer> successors(int place) {
        Instruction one = at(place);
        List<Integer> raw = new ArrayList<>();
        if (one.isAny("jump", "choice")) {
            raw.add(one.n());
        }
        if (one.isAny("table")) {
            for (int i = 0; i < one.m(); i++) {
                raw.add(bytes.get(one.n() + i));
            }
        } else if (!one.isAny("halt", "return", "none", "jump", "call") || one.isAny("call") && returning.contains(one.n())) {
            raw.add(place + one.span());
        }
        List<Integer> found = new ArrayList<>();
        for (int to : raw) {
            found.add(at(to) == null ? -1 : to);
        }
        return found;
    }

    private Function makeFunction(int entry) {
        Function made = new Function(entry);
        walkFrom(entry, made.places);
        Set<Integer> firsts = new TreeSet<>();
        firsts.add(entry);
        for (int place : made.places) {
            Set<Integer> from = new HashSet<>();
            for (int other : made.places) {
                boolean isJump = at(other).isAny("jump", "choice", "table");
                if (isJump && (successors(other).contains(place) || other + at(other).span() == place)) {
                    firsts.add(place);
                }
                if (successors(other).contains(place)) {
                    from.add(other);
                }
            }
            if (from.size() >= 2) {
                firsts.add(place);
            }
        }
        for (int first : firsts) {
            List<Integer> block = new ArrayList<>();
            int place = first;
            block.add(place);
            while (successors(place).size() == 1 && successors(place).get(0) >= 0 && !firsts.contains(successors(place).get(0))) {
                place = successors(place).get(0);
                block.add(place);
            }
            made.blocks.add(block);
        }
        made.entryBlock = made.blockWith(entry);
        leaveDeep(made, made.entryBlock, new HashSet<>());
        return made;
    }

    private void leaveDeep(Function of, int block, Set<Integer> seen) {
        if (block >= 0 && seen.add(block)) {
            for (int to : of.nexts(block)) {
                leaveDeep(of, to, seen);
            }
            of.order.add(0, block);
        }
    }

    char kind(int place) {
        return isBegin(place) ? 'c' : insides(place) > 0 ? 'o' : isTabled(place) ? 't' : '-';
    }

    boolean isInDoubt(int place) {
        int sum = (isBegin(place) ? 1 : 0) + (insides(place) > 0 ? 1 : 0) + (isTabled(place) ? 1 : 0);
        return sum >= 2 || insides(place) >= 2;
    }

    private boolean isBegin(int place) {
        return walked.contains(place);
    }

    private int insides(int place) {
        int sum = 0;
        for (int one : walked) {
            sum += one < place && place < one + at(one).span() ? 1 : 0;
        }
        return sum;
    }

    private boolean isTabled(int place) {
        for (int one : walked) {
            Instruction it = at(one);
            if (it.isAny("table") && place >= it.n() && place < it.n() + it.m()) {
                return true;
            }
        }
        return false;
    }

    int live(int place) {
        int bits = 0;
        for (int register = 0; register < 4; register++) {
            bits |= isLive(place, register, new HashSet<>()) ? 1 << register : 0;
        }
        return bits;
    }

    private boolean isLive(int place, int register, Set<Integer> seen) {
        if (place < 0 || !seen.add(place)) {
            return false;
        }
        if (uses(at(place), register)) {
            return true;
        }
        return !makes(at(place), register) && isLiveBehind(place, register, seen);
    }

    private boolean isLiveBehind(int place, int register, Set<Integer> seen) {
        for (int to : successors(place)) {
            if (isLive(to, register, seen)) {
                return true;
            }
        }
        return false;
    }

    private static boolean uses(Instruction one, int register) {
        if (one.isAny("call", "return")) {
            return true;
        }
        if (one.isAny("add", "sub", "mul", "div", "compare") && one.d() == register) {
            return true;
        }
        return one.isAny("copy", "out", "store", "table", "add", "sub", "mul", "div", "compare") && one.s() == register;
    }

    private static boolean makes(Instruction one, int register) {
        if (one.isAny("call")) {
            return true;
        }
        if (one.isAny("number", "in", "load")) {
            return one.s() == register;
        }
        return one.isAny("copy", "add", "sub", "mul", "div") && one.d() == register;
    }

    boolean isIdle(Function of, int place) {
        Instruction one = at(place);
        if (!of.places.contains(place) || !one.isAny("number", "copy", "load", "add", "sub", "mul")) {
            return false;
        }
        int register = one.isAny("number", "load") ? one.s() : one.d();
        return !isLiveBehind(place, register, new HashSet<>());
    }

    private String signs(int place) {
        Instruction one = at(place);
        char s = "abcd".charAt(one.s());
        char d = "abcd".charAt(one.d());
        switch (one.op()) {
            case "number":
                return s + "=" + (one.n() > 127 ? one.n() - 256 : one.n()) + ";";
            case "copy":
                return d + "=" + s + ";";
            case "add":
                return d + "+" + s + ";";
            case "sub":
                return d + "-" + s + ";";
            case "mul":
                return d + "*" + s + ";";
            case "div":
                return d + "/" + s + ";";
            case "compare":
                return d + "~" + s + ";";
            case "out":
                return ">" + s + ";";
            case "in":
                return "<" + s + ";";
            case "load":
                return s + "=x" + one.n() + ";";
            case "store":
                return "x" + one.n() + "=" + s + ";";
            case "call":
                return "(" + one.n() + ");";
            case "none":
                return "%";
            default:
                return "";
        }
    }

    List<Integer> compile() {
        List<String> out = new ArrayList<>();
        if (entries.isEmpty() || entries.get(0) != 0) {
            out.add("128");
            out.add("255");
        }
        for (Function one : functions) {
            out.add(":function" + one.entry);
            one.compileWhole(one.entryBlock, out);
        }
        Map<String, Integer> places = new HashMap<>();
        int length = 0;
        for (String one : out) {
            if (one.startsWith(":")) {
                places.put(one.substring(1), length);
            } else {
                length++;
            }
        }
        List<Integer> made = new ArrayList<>();
        for (String one : out) {
            if (one.startsWith(">")) {
                made.add(places.get(one.substring(1)));
            } else if (!one.startsWith(":")) {
                made.add(Integer.parseInt(one));
            }
        }
        return made;
    }

    Run run(List<Integer> row, int limit) {
        int[] r = new int[4];
        int[] cells = new int[8];
        List<Integer> kept = new ArrayList<>();
        List<Integer> outs = new ArrayList<>();
        int read = 0;
        int flag = 0;
        int place = 0;
        for (int steps = 0;; steps++) {
            Instruction one = instructionOf(row, place);
            if (one == null || one.isAny("none") || steps == limit) {
                return new Run(one == null ? 'b' : one.isAny("none") ? 'i' : 's', outs, steps);
            }
            int s = one.s();
            int d = one.d();
            int behind = place + one.span();
            char end = ' ';
            switch (one.op()) {
                case "halt" -> end = 'h';
                case "number" -> r[s] = one.n() > 127 ? one.n() - 256 : one.n();
                case "copy" -> r[d] = r[s];
                case "add" -> r[d] += r[s];
                case "sub" -> r[d] -= r[s];
                case "mul" -> r[d] *= r[s];
                case "div" -> {
                    end = r[s] == 0 ? 'z' : ' ';
                    r[d] = r[s] == 0 ? 0 : (int) ((long) r[d] / r[s]);
                }
                case "compare" -> flag = r[d] < r[s] ? -1 : r[d] > r[s] ? 1 : 0;
                case "out" -> {
                    end = outs.size() == 40 ? 'o' : ' ';
                    if (end == ' ') {
                        outs.add(r[s]);
                    }
                }
                case "in" -> {
                    end = read == inputs.size() ? 'e' : ' ';
                    r[s] = end == ' ' ? inputs.get(read) : 0;
                    read++;
                }
                case "load" -> r[s] = cells[one.n()];
                case "store" -> cells[one.n()] = r[s];
                case "jump" -> behind = one.n();
                case "choice" -> {
                    boolean[] isTaken = {flag == 0, flag != 0, flag < 0, flag >= 0};
                    behind = isTaken[one.x() - 1] ? one.n() : behind;
                }
                case "call" -> {
                    end = kept.size() == 8 ? 'c' : ' ';
                    kept.add(behind);
                    behind = one.n();
                }
                case "return" -> {
                    end = kept.isEmpty() ? 'h' : ' ';
                    behind = kept.isEmpty() ? 0 : kept.remove(kept.size() - 1);
                }
                case "table" -> {
                    end = r[s] < 0 || r[s] >= one.m() ? 't' : ' ';
                    behind = end == ' ' ? row.get(one.n() + r[s]) : 0;
                }
                default -> throw new AssertionError(one.op());
            }
            if (end != ' ') {
                return new Run(end, outs, steps + 1);
            }
            place = behind;
        }
    }

    static boolean isAgreed(Run one, Run other) {
        if (one.end() != 's' && other.end() != 's') {
            return one.end() == other.end() && one.outs().equals(other.outs());
        }
        int many = Math.min(one.outs().size(), other.outs().size());
        return one.outs().subList(0, many).equals(other.outs().subList(0, many));
    }

    static String withoutPlaces(String source) {
        return source.replaceAll("([(^@!])[0-9]+", "$1");
    }
}
