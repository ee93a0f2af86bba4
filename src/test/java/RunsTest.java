import java.lang.reflect.InvocationTargetException;
import java.lang.reflect.Method;
import java.lang.reflect.Modifier;
import java.nio.charset.StandardCharsets;
import java.util.Arrays;
import java.util.HashMap;
import java.util.Map;
import java.util.Random;

/**
 * Runs of 512 calls by chance (always the same ones) on fresh objects, every answer held against the Witness: promises 1
 * to 73 in any order and state, with numbers that there are, their neighbours, and any others.
 */
public final class RunsTest {
    private static final int RUNS = 1000;
    private static final int CALLS = 512;

    /** By call: the kinds of its numbers, as `kind` reads them. */
    private static final String[] CALL_KINDS = {
        "fault w", "door Ow", "lady Lw", "minister Mw", "way LRR", "reach LR", "bidden LD", "at LD", "within RD",
        "steps L", "sees L", "meets LL", "often LL", "friends L", "crush", "crushed", "likes L", "apart LLD", "alone D",
        "empty D", "late L", "waits L", "mate L", "hears L", "hands LL", "dummies", "blocks S", "strongest", "have LD",
        "gets LL", "from LL", "all L", "best", "lasts L", "needed L", "by Lw", "carry LLL", "walk LLLD", "widen LO",
        "shut LO", "bars LRR", "firsts X", "ask X", "leaves X", "seats L", "under L", "holds S", "power L", "part Lb",
        "cabinet", "cabinets", "kingmaker", "rests LL", "gains LLbb", "chance LLDb", "mean LDb", "bid LRA", "move ML",
        "undo", "anew", "drawn eLb", "luck etLL", "hang Oz", "count c", "image K", "back K", "row XWN", "write XIV",
        "paste XIXIN", "end T", "feed FFFFF", "ball"};

    private final Random chance;
    private final Map<String, Method> methods;
    private final HoopCabinet x = new HoopCabinet();
    private final Witness witness = new Witness();
    private final StringBuilder told = new StringBuilder();
    private int calls = 0;

    private RunsTest(long seed, Map<String, Method> methods) {
        chance = new Random(seed);
        this.methods = methods;
    }

    public static void main(String[] args) throws IllegalAccessException {
        int runs = args.length > 1 ? Integer.parseInt(args[1]) : RUNS;
        Map<String, Method> methods = new HashMap<>();
        for (Method method : HoopCabinet.class.getDeclaredMethods()) {
            if (Modifier.isPublic(method.getModifiers())) {
                methods.put(method.getName(), method);
            }
        }
        Check.due("calls of the document", CALL_KINDS.length, methods.size());
        for (int i = 0; i < runs; i++) {
            new RunsTest(i, methods).run();
        }
        Check.finish("RunsTest");
    }

    private int below(int n) {
        return chance.nextInt(n);
    }

    private void run() throws IllegalAccessException {
        if (below(4) == 0) {
            call("count", 10);
            wander(below(60));
        }
        // some runs tell one text after another
        boolean reads = below(5) == 0;
        while (calls < CALLS) {
            tell(TextMaker.text(chance));
            if (below(12) == 0) {
                crowd();
            }
            wander(reads ? 5 : below(400));
        }
    }

    /** More acts than there can be, or more bytes. */
    private void crowd() throws IllegalAccessException {
        boolean bytes = below(2) == 0;
        for (int i = bytes ? 52 : 28 + below(8); i > 0; i--) {
            if (bytes) {
                call("feed", number('F'), number('F'), number('F'), number('F'), number('F'));
            } else if (below(2) == 0) {
                call("bid", number('L'), number('R'), number('A'));
            } else {
                call("move", number('M'), number('L'));
            }
        }
    }

    private void wander(int n) throws IllegalAccessException {
        for (int i = 0; i < n; i++) {
            // acts, rows and doors are few among all calls, so they come more often
            String some = below(5) == 0 ? pick("bid LRA", "bid LRA", "move ML", "undo", "hang Oz", "back K") : below(6) == 0
                ? pick("row XWN", "write XIV", "write XIV", "paste XIXIN", "paste XIXIN", "firsts X") : pick(CALL_KINDS);
            if (some.startsWith("firsts") && below(2) == 0) {
                sight();
            }
            int blank = some.indexOf(' ');
            String name = blank < 0 ? some : some.substring(0, blank);
            String kinds = blank < 0 ? "" : some.substring(blank + 1);
            boolean rare = name.equals("ball") || name.equals("feed") || name.equals("back");
            if (!rare || below(6) == 0) {
                call(name, kinds.chars().mapToLong(this::number).toArray());
            }
        }
    }

    private String pick(String... some) {
        return some[below(some.length)];
    }

    /** A row of what was seen, mostly of ladies and dances that there are. */
    private void sight() throws IllegalAccessException {
        int slot = below(4);
        int n = below(8) == 0 ? below(10) : 3 * below(4);
        call("row", slot, below(4), n);
        for (int i = 0; i < n; i++) {
            call("write", slot, i, i % 3 == 2 ? below(2) : number("LD".charAt(i % 3)));
        }
        call("firsts", slot);
        call("ask", slot);
        call("leaves", slot);
    }

    private void tell(String text) throws IllegalAccessException {
        byte[] bytes = Arrays.copyOf(text.getBytes(StandardCharsets.ISO_8859_1), (text.length() + 19) / 20 * 20);
        call("end", 0);
        for (int i = 0; i < bytes.length; i += 20) {
            long[] five = new long[5];
            for (int k = 0; k < 20; k++) {
                five[k / 4] = (int) (five[k / 4] << 8 | bytes[i + k] & 255);
            }
            call("feed", five);
        }
        call("end", text.length());
        call("ball");
        call("fault", 0);
        call("fault", 1);
        call("count", 10);
    }

    private void call(String name, long... numbers) throws IllegalAccessException {
        if (calls >= CALLS) {
            return;
        }
        calls++;
        Method method = methods.get(name);
        Object[] values = new Object[numbers.length];
        for (int k = 0; k < numbers.length; k++) {
            values[k] = method.getParameterTypes()[k] == long.class ? (Object) numbers[k] : (Object) (int) numbers[k];
        }
        String text = name + Arrays.toString(numbers);
        told.append(text).append(' ');
        long want = witness.answer(name, numbers);
        try {
            long got = ((Number) method.invoke(x, values)).longValue();
            Check.due(got == want ? text : told.toString(), got, want);
            // behind a wrong answer the two may be in unlike states: the run ends there
            calls = got == want ? calls : CALLS;
        } catch (InvocationTargetException e) {
            e.getCause().printStackTrace(System.out);
            Check.right(text + " threw", false);
        }
    }

    // ---- numbers by kind ----

    private long number(int kind) {
        if (kind == 'V') {
            return chance.nextInt(3) > 0 ? below(6) : chance.nextLong() << below(64);
        }
        if (kind == 'F') {
            return chance.nextInt();
        }
        long high = high(kind);
        int way = below(25);
        if (way == 0) {
            return pickNumber(-1, 0, high + 1, high + 1, Integer.MIN_VALUE, Integer.MAX_VALUE, 8, 9, 13, 14, 15, 60, 61, 64, 255, chance.nextInt());
        }
        return way == 1 ? high : high <= 0 ? 0 : (long) (chance.nextDouble() * (high + 1));
    }

    private static int cut(long number) {
        return (int) Math.max(Integer.MIN_VALUE, Math.min(Integer.MAX_VALUE, number));
    }

    private long pickNumber(long... some) {
        return cut(some[below(some.length)]);
    }

    private long high(int kind) {
        switch (kind) {
            case 'L': return witness.answer("count", 5) - 1;
            case 'R': return witness.answer("count", 0) - 1;
            case 'D': return witness.answer("count", 1);
            case 'O': return witness.answer("count", 4) - 1;
            case 'M': return witness.answer("count", 6) - 1;
            case 'S': return (1L << witness.answer("count", 5)) - 1;
            case 'b': return 1;
            case 'K': return 2;
            case 'w': case 'X': case 'W': return 3;
            case 'z': return 9;
            case 'c': return 11;
            case 'A': return 13;
            case 'I': return 10;
            case 't': return 20;
            case 'N': return below(4) == 0 ? 60 : 12;
            case 'T': return witness.answer("count", 10);
            default: return 2000000000;
        }
    }
}
