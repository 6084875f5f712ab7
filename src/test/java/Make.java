/** Makes objects for tests, and tells a source as a text. */
final class Make {
    private Make() {
    }

    static Sourcewright of(int... bytes) {
        Sourcewright made = new Sourcewright();
        for (int value : bytes) {
            made.type(value);
        }
        return made;
    }

    static String source(Sourcewright x, int function) {
        StringBuilder text = new StringBuilder();
        int many = x.source(function);
        for (int i = 0; i < many; i++) {
            text.append(x.sign(function, i));
        }
        return text.toString();
    }

    static String compiled(Sourcewright x) {
        StringBuilder text = new StringBuilder();
        int many = x.compiled();
        for (int i = 0; i < many; i++) {
            text.append(i == 0 ? "" : " ").append(x.compiledByte(i));
        }
        return text.toString();
    }

    static String kinds(Sourcewright x, int many) {
        StringBuilder text = new StringBuilder();
        for (int place = 0; place < many; place++) {
            text.append(x.kind(place));
        }
        return text.toString();
    }

    static String outputs(Sourcewright x) {
        StringBuilder text = new StringBuilder();
        for (int i = 0; i < x.outputs(); i++) {
            text.append(i == 0 ? "" : " ").append(x.output(i));
        }
        return text.toString();
    }
}
