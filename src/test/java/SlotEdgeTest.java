import java.util.function.Supplier;

/**
 * The boundary cases of promises 71 to 73: rows of none and of sixty, the first number and the last, one beyond, numbers
 * cut to their width, stretches that end with their rows, and what a refused call leaves. What a row has is seen by firsts.
 */
public final class SlotEdgeTest {
    public static void main(String[] args) {
        rowLengths();
        rowRefused();
        rowZeroed();
        writeEnds();
        writeRefused();
        writeCut();
        pasteRefused();
        pasteOrder();
        pasteEnds();
        pasteWraps();
        pasteNothing();
        pasteWithin();
        pasteCopies();
        Check.finish("SlotEdgeTest");
    }

    /** Slot 0 has 1 3 1 0 2 0 in 2 bytes, slot 1 has 0 5 1 in 2 bytes, slot 2 has 1 2 1 in 8 bytes, slot 3 has nothing. */
    private static HoopCabinet rows() {
        HoopCabinet x = Check.told(Balls.ROW);
        Check.row(x, 0, 1, 1, 3, 1, 0, 2, 0);
        Check.row(x, 1, 1, 0, 5, 1);
        Check.row(x, 2, 3, 1, 2, 1);
        return x;
    }

    private static final Supplier<HoopCabinet> ROWS = SlotEdgeTest::rows;

    private static void rowLengths() {
        for (int slot = 0; slot < 4; slot++) {
            for (int width = 0; width < 4; width++) {
                for (int n : new int[] {0, 1, 59, 60}) {
                    HoopCabinet x = new HoopCabinet();
                    String row = "row(" + slot + ", " + width + ", " + n + ")";
                    Check.due("71: " + row, x.row(slot, width, n), 0);
                    Check.due("71: has a row, " + row, x.count(11), 1);
                    Check.due("72: the last number, " + row, x.write(slot, n - 1, 1), n == 0 ? -7 : 0);
                    Check.due("72: the first number, " + row, x.write(slot, 0, 1), n == 0 ? -7 : 0);
                    Check.due("72: one beyond, " + row, x.write(slot, n, 1), -7);
                }
            }
        }
    }

    private static void rowRefused() {
        for (int n : new int[] {61, 62, 100, Integer.MAX_VALUE}) {
            Twins.refused("71: n is " + n, ROWS, x -> x.row(0, 0, n), -2);
        }
        for (int n : new int[] {-1, -2, -60, Integer.MIN_VALUE}) {
            Twins.refused("71: n is " + n, ROWS, x -> x.row(0, 0, n), -3);
            Twins.refused("71: n is " + n + ", of one that has nothing", ROWS, x -> x.row(3, 0, n), -3);
            Twins.refused("71: -2 ahead of -3, slot", ROWS, x -> x.row(4, 0, n), -2);
            Twins.refused("71: -2 ahead of -3, slot", ROWS, x -> x.row(-1, 0, n), -2);
            Twins.refused("71: -2 ahead of -3, width", ROWS, x -> x.row(0, 4, n), -2);
            Twins.refused("71: -2 ahead of -3, width", ROWS, x -> x.row(0, -1, n), -2);
        }
        for (int which : new int[] {-1, 4, Integer.MIN_VALUE, Integer.MAX_VALUE}) {
            Twins.refused("71: slot " + which, ROWS, x -> x.row(which, 0, 3), -2);
            Twins.refused("71: width " + which, ROWS, x -> x.row(0, which, 3), -2);
        }
        Twins.done("71: a row that is taken is seen", ROWS, x -> x.row(3, 0, 0), 0);
    }

    /** In place of another one, all 0: whatever was there, longer or shorter. */
    private static void rowZeroed() {
        HoopCabinet x = Check.told(Balls.ROW);
        x.row(0, 0, 60);
        for (int i = 0; i < 60; i++) {
            x.write(0, i, 99);
        }
        Check.due("71: a shorter one", x.row(0, 0, 3), 0);
        // lady 0 had it not at dance 0
        Check.due("46: all 0", x.firsts(0), 6);
        Check.due("72: the old end is beyond", x.write(0, 3, 0), -7);
        Check.due("71: a longer one", x.row(0, 3, 60), 0);
        Check.due("46: all 0", x.firsts(0), 6);
        Check.due("71: of none", x.row(0, 2, 0), 0);
        Check.due("46: nothing was seen", x.firsts(0), 7);
        Check.due("68: it has a row", x.count(11), 1);
    }

    private static void writeEnds() {
        HoopCabinet x = rows();
        Check.due("72: the first number", x.write(1, 0, 1), 0);
        Check.due("46: 1 had it at 5", x.firsts(1), 3);
        Check.due("72: the last number", x.write(1, 2, 0), 0);
        Check.due("46: 1 had it not at 5", x.firsts(1), 4);
        Check.due("72: the one between", x.write(1, 1, 0), 0);
        Check.due("46: 1 had it not at 0", x.firsts(1), 5);
        Check.due("46: the others stay", x.firsts(2), 2);
    }

    private static void writeRefused() {
        for (int i : new int[] {-1, 6, 7, 59, 60, Integer.MIN_VALUE, Integer.MAX_VALUE}) {
            Twins.refused("72: number " + i + " of six", ROWS, x -> x.write(0, i, 1), -7);
        }
        for (int i : new int[] {-1, 0, 60}) {
            Twins.refused("72: it has nothing, ahead of -7", ROWS, x -> x.write(3, i, 1), -6);
            Twins.refused("72: no such slot, ahead of all", ROWS, x -> x.write(4, i, 1), -2);
            Twins.refused("72: no such slot, ahead of all", ROWS, x -> x.write(-1, i, 1), -2);
        }
        Twins.refused("72: what it is already", ROWS, x -> x.write(0, 5, 0), 0);
        Twins.done("72: is seen", ROWS, x -> x.write(0, 5, 1), 0);
        Twins.refused("72: a new object has nothing", HoopCabinet::new, x -> x.write(0, 0, 0), -6);
    }

    /** Cut to 1, 2, 4 or 8 bytes: what is 1 above the cut is 1; below 0 is no number of any kind. */
    private static void writeCut() {
        for (int width = 0; width < 4; width++) {
            for (int bits = 8; bits <= 56; bits += 8) {
                boolean cut = bits >= 8 << width;
                HoopCabinet x = Check.told(Balls.ROW);
                Check.row(x, 0, width, 1, 2, 1 + (1L << bits));
                Check.due("72: width " + width + ", 1 and 2 to the " + bits, x.firsts(0), cut ? 2 : -2);
                Check.row(x, 0, width, 1, 2, 1 - (1L << bits));
                Check.due("72: width " + width + ", 1 less 2 to the " + bits, x.firsts(0), cut ? 2 : -2);
                Check.row(x, 0, width, 1, 2, 1L << bits - 1);
                Check.due("72: width " + width + ", 2 to the " + (bits - 1), x.firsts(0), bits - 1 >= 8 << width ? 5 : -2);
            }
            for (long number : new long[] {-1, 2, 127, 128, 255, Long.MAX_VALUE}) {
                HoopCabinet x = Check.told(Balls.ROW);
                Check.row(x, 0, width, 1, 2, number);
                Check.due("72: width " + width + ", " + number, x.firsts(0), -2);
            }
            HoopCabinet least = Check.told(Balls.ROW);
            Check.row(least, 0, width, 1, 2, Long.MIN_VALUE);
            Check.due("72: width " + width + ", the least", least.firsts(0), width == 3 ? -2 : 5);
            Check.row(least, 0, width, 1, 2, Long.MIN_VALUE + 1);
            Check.due("72: width " + width + ", the least and 1", least.firsts(0), width == 3 ? -2 : 2);
        }
    }

    // ---- paste ----

    private static void refused(String what, int slot, int i, int to, int k, int n, int want) {
        Twins.refused("73: " + what, ROWS, x -> x.paste(slot, i, to, k, n), want);
    }

    private static void pasteRefused() {
        refused("from one below 0", 0, -1, 1, 0, 1, -7);
        refused("to one below 0", 0, 0, 1, -1, 1, -7);
        refused("n below 0", 0, 0, 1, 0, -1, -7);
        refused("n below 0, from the end", 0, 6, 1, 3, -1, -7);
        refused("one beyond the first row", 1, 0, 0, 0, 4, -7);
        refused("one beyond the other row", 0, 0, 1, 0, 4, -7);
        refused("beyond the first row from its last one", 1, 2, 0, 0, 2, -7);
        refused("beyond the other row from its last one", 0, 0, 1, 2, 2, -7);
        refused("one from the first row's end", 1, 3, 0, 0, 1, -7);
        refused("one to the other row's end", 0, 0, 1, 3, 1, -7);
        refused("sixty, as rows can have", 0, 0, 0, 0, 60, -7);
        refused("within, beyond its end", 0, 1, 0, 0, 6, -7);
        refused("within, to beyond its end", 0, 0, 0, 1, 6, -7);
    }

    /** -2, then -6, then -8, then -7. */
    private static void pasteOrder() {
        for (int slot : new int[] {-1, 4, Integer.MIN_VALUE, Integer.MAX_VALUE}) {
            refused("no such slot", slot, 0, 0, 0, 1, -2);
            refused("no such slot to", 0, 0, slot, 0, 1, -2);
            refused("no such slot, the other has nothing", slot, 0, 3, 0, 1, -2);
            refused("no such slot to, the other has nothing", 3, 0, slot, 0, 1, -2);
            refused("no such slot, a place below 0", slot, -1, 0, -1, -1, -2);
        }
        refused("one has nothing", 3, 0, 0, 0, 1, -6);
        refused("the other has nothing", 0, 0, 3, 0, 1, -6);
        refused("both have nothing", 3, 0, 3, 0, 0, -6);
        refused("one has nothing, a place below 0", 3, -1, 0, 0, 1, -6);
        refused("one has nothing, n below 0", 0, 0, 3, 0, -1, -6);
        refused("not of one width", 0, 0, 2, 0, 1, -8);
        refused("not of one width", 2, 0, 0, 0, 1, -8);
        refused("not of one width, none of them", 2, 0, 0, 0, 0, -8);
        refused("not of one width, beyond", 2, 0, 0, 0, 4, -8);
        refused("not of one width, a place below 0", 2, -1, 0, 0, 1, -8);
        refused("not of one width, n below 0", 2, 0, 0, 0, -1, -8);
        for (int width = 0; width < 4; width++) {
            for (int other = 0; other < 4; other++) {
                HoopCabinet x = new HoopCabinet();
                x.row(0, width, 3);
                x.row(1, other, 3);
                Check.due("73: widths " + width + " and " + other, x.paste(0, 0, 1, 0, 3), width == other ? 0 : -8);
            }
        }
    }

    /** To the very ends of both rows. */
    private static void pasteEnds() {
        HoopCabinet x = rows();
        Check.due("73: the last three to the others' all", x.paste(0, 3, 1, 0, 3), 0);
        Check.due("46: 0 had it not at 2", x.firsts(1), 6);
        HoopCabinet y = rows();
        Check.due("73: all three to the last three", y.paste(1, 0, 0, 3, 3), 0);
        Check.due("46: 1 had it at 3, 0 at 5", y.firsts(0), 3);
        HoopCabinet z = rows();
        Check.due("73: the last one to the last one", z.paste(0, 5, 1, 2, 1), 0);
        Check.due("46: 0 had it not at 5", z.firsts(1), 4);
        Twins.done("73: is seen", ROWS, w -> w.paste(0, 5, 1, 2, 1), 0);
        HoopCabinet full = Check.told(Balls.ROW);
        full.row(0, 0, 60);
        full.row(1, 0, 60);
        full.write(0, 59, 1);
        full.write(0, 57, 1);
        Check.due("46: lady 1 had it at 0 in the end, lady 0 not", full.firsts(0), 2);
        Check.due("73: sixty of sixty", full.paste(0, 0, 1, 0, 60), 0);
        Check.due("46: the same", full.firsts(1), 2);
        Check.due("73: sixty-one", full.paste(0, 0, 1, 0, 61), -7);
        Check.due("73: sixty from one", full.paste(0, 1, 1, 0, 60), -7);
        Check.due("73: fifty-nine from one to one", full.paste(0, 1, 1, 1, 59), 0);
    }

    /** Sums that would wrap around. */
    private static void pasteWraps() {
        int max = Integer.MAX_VALUE;
        int min = Integer.MIN_VALUE;
        int[][] wild = {{max, 0, 1}, {0, max, 1}, {max, max, max}, {1, 1, max}, {0, 0, max}, {max, 0, max}, {0, max, max},
            {min, 0, 1}, {0, min, 1}, {0, 0, min}, {min, min, min}, {max, 0, min}, {1, 0, min}, {min, 0, max}, {max, max, 0},
            {min, 0, 0}, {0, min, 0}, {max - 1, 0, 3}, {0, max - 1, 3}, {2, 2, max - 1}, {-1, -1, 0}, {-1, 0, 2}, {0, -1, 2}};
        for (int[] one : wild) {
            refused("from " + one[0] + " to " + one[1] + ", " + one[2], 0, one[0], 1, one[1], one[2], -7);
        }
    }

    /** None at all: from and to any place of the rows, their ends too, but not beyond. */
    private static void pasteNothing() {
        refused("none", 0, 0, 1, 0, 0, 0);
        refused("none, at both ends", 0, 6, 1, 3, 0, 0);
        refused("none, beyond the first row's end", 0, 7, 1, 3, 0, -7);
        refused("none, beyond the other row's end", 0, 6, 1, 4, 0, -7);
        HoopCabinet x = new HoopCabinet();
        x.row(0, 0, 0);
        x.row(1, 0, 0);
        Check.due("73: none of rows of none", x.paste(0, 0, 1, 0, 0), 0);
        Check.due("73: one of a row of none", x.paste(0, 0, 1, 0, 1), -7);
        Check.due("73: within a row of none", x.paste(0, 0, 0, 0, 0), 0);
    }

    /** As they were: over itself, up and down. */
    private static void pasteWithin() {
        refused("onto itself", 0, 0, 0, 0, 6, 0);
        refused("a part onto itself", 0, 2, 0, 2, 4, 0);
        for (int shift = 1; shift <= 3; shift++) {
            HoopCabinet up = rows();
            Check.due("73: up by " + shift, up.paste(0, 0, 0, shift, 3), 0);
            up.paste(0, shift, 1, 0, 3);
            Check.due("46: 1 had it at 3", up.firsts(1), 3);
            HoopCabinet down = rows();
            Check.row(down, 0, 1, 9, 9, 9, 1, 2, 1);
            Check.due("73: down by " + shift, down.paste(0, 3, 0, 3 - shift, 3), 0);
            down.paste(0, 3 - shift, 1, 0, 3);
            Check.due("46: 1 had it at 2", down.firsts(1), 2);
        }
    }

    /** The first row stays, and is not tied to the other one. */
    private static void pasteCopies() {
        HoopCabinet x = rows();
        x.paste(1, 0, 0, 0, 3);
        Check.due("46: the first row stays", x.firsts(1), 3);
        x.write(1, 0, 2);
        Check.due("46: written anew", x.firsts(1), 4);
        x.row(0, 1, 3);
        Check.due("46: the other one zeroed leaves it", x.firsts(1), 4);
        HoopCabinet wide = Check.told(Balls.ROW);
        Check.row(wide, 0, 3, 1, 2, Long.MAX_VALUE);
        Check.row(wide, 1, 3, 0, 0, 0);
        Check.due("73: eight bytes", wide.paste(0, 2, 1, 2, 1), 0);
        Check.due("46: as it was: no such number", wide.firsts(1), -2);
    }
}
