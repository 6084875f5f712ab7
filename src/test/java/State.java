import java.util.NoSuchElementException;

/** Tells of an object all that can be asked of it without changing it. */
final class State {
    private State() {
    }

    static String told(Sourcewright x) {
        StringBuilder text = new StringBuilder();
        text.append(x.checksum()).append(' ').append(x.functions()).append(' ').append(x.doubts()).append(' ').append(x.isSound());
        text.append(" out ").append(Make.outputs(x)).append(" steps ").append(x.steps());
        int many = 0;
        for (boolean isByte = true; isByte;) {
            try {
                text.append(' ').append(x.byteAt(many)).append(x.kind(many)).append(x.isInDoubt(many)).append(x.length(many)).append(x.sharers(many));
                many++;
            } catch (IndexOutOfBoundsException e) {
                isByte = false;
            }
        }
        for (int function = 0; function < x.functions(); function++) {
            text.append(" function ").append(x.entryOf(function)).append(x.mayReturn(function)).append(x.leaps(function));
            text.append(Make.source(x, function)).append(matched(x, function));
            for (int block = 0; block < x.blocks(function); block++) {
                text.append(' ').append(x.first(function, block)).append('/').append(x.size(function, block)).append('/');
                text.append(x.order(function, block)).append(x.isHead(function, block)).append(x.depth(function, block)).append(x.isMeeting(function, block));
            }
        }
        text.append(" compiled ").append(compiled(x));
        return text.toString();
    }

    /** What is known by changes alone: the inputs, whether it is tidy, how many entries are told. The object is spent then. */
    static String spent(Sourcewright x) {
        StringBuilder text = new StringBuilder();
        text.append(x.run(false, 2000)).append(Make.outputs(x)).append(' ').append(x.steps()).append(' ').append(x.tidy(true));
        for (int place = 1; place <= 4; place++) {
            text.append(' ').append(told(x, place));
        }
        text.append(" inputs ").append(x.dry()).append(' ').append(x.input(0)).append(" bytes ").append(x.wipe()).append(' ').append(x.keep());
        return text.toString();
    }

    private static String told(Sourcewright x, int place) {
        try {
            return "" + x.entry(place);
        } catch (IndexOutOfBoundsException | UnsupportedOperationException | IllegalStateException e) {
            return e.getClass().getSimpleName();
        }
    }

    private static String compiled(Sourcewright x) {
        try {
            return Make.compiled(x);
        } catch (UnsupportedOperationException e) {
            return "too many";
        }
    }

    private static int matched(Sourcewright x, int function) {
        try {
            return x.match(function);
        } catch (NoSuchElementException e) {
            return -1;
        }
    }
}
