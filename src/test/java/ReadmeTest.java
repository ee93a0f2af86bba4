import java.io.IOException;
import java.lang.reflect.InvocationTargetException;
import java.lang.reflect.Method;
import java.nio.file.Files;
import java.nio.file.Path;
import java.util.regex.Matcher;
import java.util.regex.Pattern;

/** README.md tells calls with their answers ("x.end(35); // 35: why") and a text for the tape: all are as it says. */
public final class ReadmeTest {
    private static final Pattern CALL = Pattern.compile("^    x\\.(\\w+)\\(([^)]*)\\); +// (-?[0-9]+)(:.*)?$");

    public static void main(String[] args) throws IOException, ReflectiveOperationException {
        HoopCabinet x = new HoopCabinet();
        StringBuilder text = new StringBuilder();
        int calls = 0;
        for (String line : Files.readAllLines(Path.of("README.md"))) {
            Matcher call = CALL.matcher(line);
            if (call.matches()) {
                if (text.length() > 0) {
                    Check.tape(x, text.toString());
                    text.setLength(0);
                }
                Check.due(line.trim(), answer(x, call.group(1), call.group(2)), Long.parseLong(call.group(3)));
                calls++;
            } else if (line.startsWith("    ") && line.endsWith(";") && !line.contains("HoopCabinet")) {
                text.append(line.substring(4)).append('\n');
            }
        }
        Check.right("README.md tells " + calls + " calls", calls == 18);
        Check.finish("ReadmeTest");
    }

    private static long answer(HoopCabinet x, String name, String numbers) throws IllegalAccessException, InvocationTargetException {
        Object[] values = Pattern.compile(", *").splitAsStream(numbers).filter(one -> !one.isEmpty()).map(Integer::decode).toArray();
        for (Method method : HoopCabinet.class.getDeclaredMethods()) {
            if (method.getName().equals(name)) {
                return ((Number) method.invoke(x, values)).longValue();
            }
        }
        throw new IllegalStateException("README.md calls " + name);
    }
}
