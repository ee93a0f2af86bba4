import java.lang.reflect.InvocationTargetException;
import java.lang.reflect.Method;
import java.util.ArrayList;
import java.util.Arrays;
import java.util.Comparator;
import java.util.List;
import java.util.Random;

/** Calls with any arguments in any state: none throws, all end, and a refused call leaves the counts as they were. */
public final class WildTest {
    private static final int OBJECTS = 400;
    private static final int CALLS = 512;
    private static final long[] EDGES = {-1, -2, 60, 61, 1000, 1001, 2000000000, 2000000001, Integer.MAX_VALUE, Integer.MIN_VALUE};

    public static void main(String[] args) throws IllegalAccessException {
        List<Method> calls = new ArrayList<>();
        for (Method method : HoopCabinet.class.getDeclaredMethods()) {
            if (java.lang.reflect.Modifier.isPublic(method.getModifiers())) {
                calls.add(method);
            }
        }
        calls.sort(Comparator.comparing(Method::getName));
        Check.due("public methods", calls.size(), 72);
        for (int i = 0; i < OBJECTS; i++) {
            runWild(calls, new Random(i));
        }
        Check.finish("WildTest");
    }

    private static void runWild(List<Method> calls, Random chance) throws IllegalAccessException {
        String[] texts = {Balls.ROW, Balls.STAR, Balls.BARE, ""};
        HoopCabinet x = new HoopCabinet();
        for (int i = 0; i < CALLS; i++) {
            if (i % 64 == 0) {
                Check.tape(x, texts[chance.nextInt(texts.length)]);
                x.ball();
            }
            callWild(x, calls.get(chance.nextInt(calls.size())), chance);
        }
    }

    private static void callWild(HoopCabinet x, Method method, Random chance) throws IllegalAccessException {
        Class<?>[] types = method.getParameterTypes();
        Object[] values = new Object[types.length];
        for (int k = 0; k < types.length; k++) {
            long value = chance.nextInt(5) == 0 ? wildOne(chance) : chance.nextInt(5);
            values[k] = types[k] == long.class ? (Object) value : (Object) (int) value;
        }
        int[] ahead = counts(x);
        String call = method.getName() + Arrays.toString(values);
        try {
            long answer = ((Number) method.invoke(x, values)).longValue();
            boolean refused = answer <= -2 && answer >= -8;
            Check.right(call + " refused, but changed something", !refused || method.getName().equals("gains")
                || Arrays.equals(ahead, counts(x)));
        } catch (InvocationTargetException e) {
            e.getCause().printStackTrace(System.out);
            Check.right(call + " threw", false);
        }
    }

    private static long wildOne(Random chance) {
        int which = chance.nextInt(EDGES.length + 2);
        if (which < EDGES.length) {
            return EDGES[which];
        }
        return which == EDGES.length ? chance.nextInt() : chance.nextInt(70);
    }

    private static int[] counts(HoopCabinet x) {
        int[] found = new int[12];
        for (int what = 0; what < found.length; what++) {
            found[what] = x.count(what);
        }
        return found;
    }
}
