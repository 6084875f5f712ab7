import java.lang.reflect.Constructor;
import java.lang.reflect.Method;
import java.lang.reflect.Modifier;
import java.util.Set;
import java.util.TreeSet;

/** The public face is the document's: every method with its types and exceptions, and no other public member. */
public final class FaceTest {
    private static final Due DUE = new Due("FaceTest");
    private static final String[] METHODS = {
        "int type(int) IllegalArgumentException IllegalStateException",
        "int set(int,int) IndexOutOfBoundsException IllegalArgumentException",
        "int wipe()",
        "int byteAt(int) IndexOutOfBoundsException",
        "int entry(int) IndexOutOfBoundsException UnsupportedOperationException IllegalStateException",
        "char kind(int) IndexOutOfBoundsException",
        "boolean isInDoubt(int) IndexOutOfBoundsException",
        "int doubts()",
        "int length(int) IndexOutOfBoundsException",
        "int functions()",
        "int entryOf(int) IndexOutOfBoundsException",
        "int functionOf(int) IndexOutOfBoundsException NoSuchElementException",
        "int sharers(int) IndexOutOfBoundsException",
        "boolean mayReturn(int) IndexOutOfBoundsException",
        "int calls(int,int) IndexOutOfBoundsException",
        "int blocks(int) IndexOutOfBoundsException",
        "int first(int,int) IndexOutOfBoundsException",
        "int size(int,int) IndexOutOfBoundsException",
        "int nexts(int,int) IndexOutOfBoundsException",
        "int next(int,int,int) IndexOutOfBoundsException NoSuchElementException",
        "int nearest(int,int) IndexOutOfBoundsException NoSuchElementException",
        "int order(int,int) IndexOutOfBoundsException",
        "boolean isHead(int,int) IndexOutOfBoundsException",
        "int depth(int,int) IndexOutOfBoundsException",
        "boolean isMeeting(int,int) IndexOutOfBoundsException",
        "int leaps(int) IndexOutOfBoundsException",
        "int live(int,int) IndexOutOfBoundsException NoSuchElementException",
        "boolean isIdle(int,int) IndexOutOfBoundsException NoSuchElementException",
        "boolean tidy(boolean)",
        "int source(int) IndexOutOfBoundsException",
        "char sign(int,int) IndexOutOfBoundsException NoSuchElementException",
        "int compiled() UnsupportedOperationException",
        "int compiledByte(int) UnsupportedOperationException NoSuchElementException",
        "int input(int) IllegalStateException",
        "int dry()",
        "char run(boolean,int) IllegalArgumentException UnsupportedOperationException",
        "int outputs()",
        "int output(int) NoSuchElementException",
        "int steps()",
        "boolean agree(int) IllegalArgumentException UnsupportedOperationException",
        "int keep()",
        "int match(int) IndexOutOfBoundsException NoSuchElementException",
        "long checksum()",
        "float codeShare() ArithmeticException",
        "double meanBlock(int) IndexOutOfBoundsException",
        "boolean isSound()"};

    public static void main(String[] args) {
        Class<?> face = Sourcewright.class;
        DUE.same("public and final", face.getModifiers(), Modifier.PUBLIC | Modifier.FINAL);
        DUE.same("public fields", face.getFields().length, 0);
        DUE.same("public classes", face.getClasses().length, 0);
        Constructor<?>[] constructors = face.getDeclaredConstructors();
        DUE.same("constructors", constructors.length, 1);
        DUE.same("the constructor", constructors[0].toString(), "public Sourcewright()");
        Set<String> due = new TreeSet<>(Set.of(METHODS));
        Set<String> found = new TreeSet<>();
        for (Method one : face.getDeclaredMethods()) {
            if (!Modifier.isPrivate(one.getModifiers()) && !one.isSynthetic()) {
                DUE.check(Modifier.isPublic(one.getModifiers()), one + " is neither private nor public");
                found.add(told(one));
            }
        }
        DUE.same("methods", found.toString(), due.toString());
        DUE.end();
    }

    private static String told(Method one) {
        StringBuilder text = new StringBuilder(one.getReturnType().getSimpleName()).append(' ').append(one.getName()).append('(');
        Class<?>[] types = one.getParameterTypes();
        for (int i = 0; i < types.length; i++) {
            text.append(i == 0 ? "" : ",").append(types[i].getSimpleName());
        }
        text.append(')');
        for (Class<?> thrown : one.getExceptionTypes()) {
            text.append(' ').append(thrown.getSimpleName());
        }
        return text.toString();
    }
}
