/** Promises 71 to 73: rows, numbers written, numbers pasted. What a row has is seen by firsts. */
public final class SlotTest {
    public static void main(String[] args) {
        rows();
        writing();
        pasting();
        pastingWithin();
        Check.finish("SlotTest");
    }

    private static void rows() {
        HoopCabinet x = Check.told(Balls.ROW);
        Check.due("row(4, 0, 1)", x.row(4, 0, 1), -2);
        Check.due("row(-1, 0, 1)", x.row(-1, 0, 1), -2);
        Check.due("row(0, 4, 1)", x.row(0, 4, 1), -2);
        Check.due("row(0, -1, 1)", x.row(0, -1, 1), -2);
        Check.due("row(0, 0, 61)", x.row(0, 0, 61), -2);
        Check.due("row(0, 0, -1)", x.row(0, 0, -1), -3);
        Check.due("row(4, 0, -1)", x.row(4, 0, -1), -2);
        Check.due("row(0, 4, -1)", x.row(0, 4, -1), -2);
        Check.due("none has a row", x.count(11), 0);
        Check.due("row(0, 0, 60)", x.row(0, 0, 60), 0);
        Check.due("write(0, 59, 1)", x.write(0, 59, 1), 0);
        Check.due("row(0, 0, -1)", x.row(0, 0, -1), -3);
        Check.due("the slot stays", x.write(0, 59, 0), 0);
        Check.due("row(0, 3, 3)", x.row(0, 3, 3), 0);
        // lady 0, dance 0, 0: she is not the first
        Check.due("all 0", x.firsts(0), 6);
        Check.row(x, 0, 0, 1, 2, 1);
        Check.due("1 had it at 2", x.firsts(0), 2);
        Check.due("row(0, 0, 3) in place of another one", x.row(0, 0, 3), 0);
        Check.due("all 0 again", x.firsts(0), 6);
        Check.due("one slot has a row", x.count(11), 1);
    }

    private static void writing() {
        HoopCabinet x = Check.told(Balls.ROW);
        Check.due("write(4, 0, 0)", x.write(4, 0, 0), -2);
        Check.due("write(-1, 0, 0)", x.write(-1, 0, 0), -2);
        Check.due("write(0, 0, 0)", x.write(0, 0, 0), -6);
        x.row(0, 0, 3);
        Check.due("write(0, 3, 0)", x.write(0, 3, 0), -7);
        Check.due("write(0, -1, 0)", x.write(0, -1, 0), -7);
        long[] tops = {256L, 65536L, 4294967296L};
        for (int width = 0; width < 4; width++) {
            for (int k = 0; k < tops.length; k++) {
                Check.row(x, 0, width, 1, 2, tops[k] + 1);
                Check.due("width " + width + " cuts " + tops[k], x.firsts(0), width <= k ? 2 : -2);
            }
        }
        x.row(1, 0, 0);
        Check.due("a row of none", x.write(1, 0, 0), -7);
    }

    private static void pasting() {
        HoopCabinet x = Check.told(Balls.ROW);
        Check.row(x, 0, 1, 9, 1, 2, 1, 9);
        Check.row(x, 1, 1, 1, 3, 1);
        Check.row(x, 2, 2, 1, 3, 1);
        Check.due("paste(4, ..)", x.paste(4, 0, 0, 0, 0), -2);
        Check.due("paste(.., 4, ..)", x.paste(0, 0, 4, 0, 0), -2);
        Check.due("paste from nothing", x.paste(3, 0, 0, 0, 0), -6);
        Check.due("paste to nothing", x.paste(0, 0, 3, 0, 0), -6);
        Check.due("-2 ahead of -6", x.paste(3, 0, 4, 0, 0), -2);
        Check.due("unlike widths", x.paste(0, 0, 2, 0, 1), -8);
        Check.due("unlike widths ahead of places", x.paste(0, -1, 2, 0, 1), -8);
        Check.due("beyond its row", x.paste(0, 3, 1, 0, 3), -7);
        Check.due("beyond the other one's", x.paste(0, 0, 1, 1, 3), -7);
        Check.due("a place below 0", x.paste(0, -1, 1, 0, 1), -7);
        Check.due("a place below 0", x.paste(0, 0, 1, -1, 1), -7);
        Check.due("n below 0", x.paste(0, 0, 1, 0, -1), -7);
        Check.due("huge", x.paste(0, Integer.MAX_VALUE, 1, 0, Integer.MAX_VALUE), -7);
        Check.due("huge", x.paste(0, 1, 1, 1, Integer.MAX_VALUE), -7);
        Check.due("least", x.paste(0, Integer.MIN_VALUE, 1, 0, Integer.MIN_VALUE), -7);
        Check.due("nothing happened", x.firsts(1), 3);
        Check.due("none at the ends", x.paste(0, 5, 1, 3, 0), 0);
        Check.due("nothing to see", x.firsts(1), 3);
        Check.due("paste", x.paste(0, 1, 1, 0, 3), 0);
        Check.due("pasted", x.firsts(1), 2);
    }

    /** 1 2 1 is moved by one number, either way: as they were. */
    private static void pastingWithin() {
        HoopCabinet x = Check.told(Balls.ROW);
        Check.row(x, 0, 0, 1, 2, 1, 9);
        Check.row(x, 1, 0, 0, 0, 0);
        Check.due("paste within, up", x.paste(0, 0, 0, 1, 3), 0);
        Check.due("out", x.paste(0, 1, 1, 0, 3), 0);
        Check.due("seen", x.firsts(1), 2);
        Check.row(x, 0, 0, 9, 1, 2, 1);
        Check.row(x, 1, 0, 0, 0, 0);
        Check.due("paste within, down", x.paste(0, 1, 0, 0, 3), 0);
        Check.due("out", x.paste(0, 0, 1, 0, 3), 0);
        Check.due("seen", x.firsts(1), 2);
    }
}
