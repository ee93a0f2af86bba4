import java.nio.charset.StandardCharsets;

/** Counts answers that are not as due, and feeds texts. */
final class Check {
    private static int asked = 0;
    private static int wrong = 0;

    private Check() {
    }

    static void due(String call, long got, long want) {
        asked++;
        if (got != want) {
            wrong++;
            if (wrong <= 50) {
                System.out.println(call + " answered " + got + ", due is " + want);
            }
        }
    }

    static void right(String what, boolean holds) {
        due(what, holds ? 1 : 0, 1);
    }

    /** Ends the test: exit code 1 if an answer was wrong, or none was asked. */
    static void finish(String name) {
        System.out.println(name + ": " + asked + " answers, " + wrong + " not as due");
        System.exit(wrong != 0 || asked == 0 ? 1 : 0);
    }

    /** The text alone is on the tape. */
    static void tape(HoopCabinet x, String text) {
        byte[] bytes = text.getBytes(StandardCharsets.ISO_8859_1);
        x.end(0);
        for (int i = 0; i < bytes.length; i += 20) {
            x.feed(four(bytes, i), four(bytes, i + 4), four(bytes, i + 8), four(bytes, i + 12), four(bytes, i + 16));
        }
        if (x.end(bytes.length) != bytes.length) {
            throw new IllegalStateException("the text does not go on the tape: " + text);
        }
    }

    /** A new object with the text as its ball. */
    static HoopCabinet told(String text) {
        HoopCabinet x = new HoopCabinet();
        tape(x, text);
        if (x.ball() < 0) {
            throw new IllegalStateException("fault " + x.fault(0) + " at " + x.fault(1) + ": " + text);
        }
        return x;
    }

    private static int four(byte[] bytes, int i) {
        int found = 0;
        for (int k = i; k < i + 4; k++) {
            found = found << 8 | (k < bytes.length ? bytes[k] & 255 : 0);
        }
        return found;
    }

    /** A slot gets a row of the numbers. */
    static void row(HoopCabinet x, int slot, int width, long... numbers) {
        x.row(slot, width, numbers.length);
        for (int i = 0; i < numbers.length; i++) {
            x.write(slot, i, numbers[i]);
        }
    }
}
