import java.lang.reflect.InvocationTargetException;
import java.lang.reflect.Method;
import java.lang.reflect.Modifier;
import java.util.ArrayList;
import java.util.Comparator;
import java.util.List;

/**
 * Random calls of all methods with arguments of all sizes: only what a method's face names is thrown, by the class's own
 * throw, what throws changes nothing, and an object that was asked much answers as one that was not.
 */
public final class FuzzTest {
    private static final int RUNS = 600;
    private static final int CALLS = 512;
    private static final int[] EDGES = {-1, 0, 1, 2, 3, 4, 7, 8, 12, 119, 120, 239, 240, 255, 256, 300, 2000, 2001, -128,
        Integer.MIN_VALUE, Integer.MAX_VALUE, Integer.MIN_VALUE + 1, Integer.MAX_VALUE - 1};

    private final Due due = new Due("FuzzTest");
    private final Programs programs = new Programs(512L);
    private final List<Method> methods = new ArrayList<>();
    private int thrown = 0;

    public static void main(String[] args) throws IllegalAccessException {
        FuzzTest test = new FuzzTest();
        for (Method one : Sourcewright.class.getDeclaredMethods()) {
            if (Modifier.isPublic(one.getModifiers())) {
                test.methods.add(one);
            }
        }
        test.methods.sort(Comparator.comparing(Method::getName));
        for (int i = 0; i < RUNS; i++) {
            test.oneRun();
        }
        test.due.check(test.thrown > 1000, "too little was thrown");
        test.due.end();
    }

    private void oneRun() throws IllegalAccessException {
        Sourcewright x = new Sourcewright();
        Sourcewright twin = new Sourcewright();
        int start = programs.chance(5) ? 0 : 1;
        for (int value : start == 0 ? new int[0] : programs.make()) {
            x.type(value);
            twin.type(value);
        }
        for (int i = 0; i < CALLS; i++) {
            Method one = methods.get(programs.below(methods.size()));
            if (one.getName().equals("wipe") && !programs.chance(10)) {
                continue;
            }
            Object[] arguments = arguments(one);
            String call = one.getName() + java.util.Arrays.toString(arguments);
            boolean isWatched = i % 16 == 0;
            String before = isWatched ? State.told(x) : "";
            Object answer = call(x, one, arguments, call);
            if (answer instanceof Class && isWatched) {
                due.same(call + " threw", State.told(x), before);
            }
            due.same(call + " of the twin", "" + call(twin, one, arguments, call), "" + answer);
        }
    }

    private Object[] arguments(Method one) {
        Class<?>[] types = one.getParameterTypes();
        Object[] made = new Object[types.length];
        for (int i = 0; i < made.length; i++) {
            made[i] = types[i] == boolean.class ? (Object) programs.chance(2) : (Object) number();
        }
        return made;
    }

    private int number() {
        int which = programs.below(8);
        return which == 0 ? EDGES[programs.below(EDGES.length)] : which < 5 ? programs.below(6) : programs.below(256);
    }

    /** The answer, or the class that was thrown. */
    private Object call(Sourcewright x, Method one, Object[] arguments, String call) throws IllegalAccessException {
        try {
            return one.invoke(x, arguments);
        } catch (InvocationTargetException e) {
            Throwable cause = e.getCause();
            thrown++;
            boolean isNamed = false;
            for (Class<?> type : one.getExceptionTypes()) {
                isNamed = isNamed || type == cause.getClass();
            }
            due.check(isNamed, call + " threw " + cause);
            return cause.getClass();
        }
    }
}
