/** The three examples at the end of "Terms". */
public final class TermsTest {
    public static void main(String[] args) {
        Due due = new Due("TermsTest");
        number(due);
        endless(due);
        idle(due);
        due.end();
    }

    private static void number(Due due) {
        Sourcewright x = new Sourcewright();
        due.same("type(16)", x.type(16), 1);
        due.same("type(5)", x.type(5), 2);
        due.same("type(144)", x.type(144), 3);
        due.same("type(0)", x.type(0), 4);
        due.same("source(0)", x.source(0), 8);
        due.same("sign(0, 0)", x.sign(0, 0), 'a');
        due.same("sign(0, 2)", x.sign(0, 2), '5');
        due.same("run(false, 10)", x.run(false, 10), 'h');
        due.same("output(0)", x.output(0), 5);
    }

    private static void endless(Due due) {
        Sourcewright x = new Sourcewright();
        due.same("type(128)", x.type(128), 1);
        due.same("type(0)", x.type(0), 2);
        due.same("isHead(0, 0)", x.isHead(0, 0) ? 1 : 0, 1);
        due.same("source(0)", x.source(0), 6);
        due.same("compiled()", x.compiled(), 2);
        due.same("run(true, 7)", x.run(true, 7), 's');
    }

    private static void idle(Due due) {
        Sourcewright x = new Sourcewright();
        int[] bytes = {16, 1, 16, 2, 144, 0};
        for (int i = 0; i < bytes.length; i++) {
            due.same("type(" + bytes[i] + ")", x.type(bytes[i]), i + 1);
        }
        due.same("isIdle(0, 0)", x.isIdle(0, 0) ? 1 : 0, 1);
        due.same("tidy(true)", x.tidy(true) ? 1 : 0, 0);
        due.same("source(0)", x.source(0), 8);
    }
}
