import java.util.ArrayList;
import java.util.List;
import java.util.function.Supplier;

/** What a call may not change: of two objects made alike one gets the call, then both are asked all that can be seen. */
final class Twins {
    interface Call {
        long on(HoopCabinet x);
    }

    private Twins() {
    }

    /** The call is answered so, and all stays as it was. */
    static void refused(String what, Supplier<HoopCabinet> start, Call call, long want) {
        HoopCabinet one = start.get();
        Check.due(what, call.on(one), want);
        Check.right(what + ": something has changed", view(one).equals(view(start.get())));
    }

    /** The call is answered so, and is seen to have done something. */
    static void done(String what, Supplier<HoopCabinet> start, Call call, long want) {
        HoopCabinet one = start.get();
        Check.due(what, call.on(one), want);
        Check.right(what + ": nothing has changed", !view(one).equals(view(start.get())));
    }

    /** All that an object shows, by some 400 calls: no object gets more than its 512. It is of no use afterwards. */
    private static List<Long> view(HoopCabinet x) {
        List<Long> seen = new ArrayList<>();
        for (int what = 0; what < 12; what++) {
            seen.add((long) x.count(what));
        }
        seen.add((long) x.fault(0));
        seen.add((long) x.fault(1));
        viewTold(x, seen);
        viewGoing(x, seen);
        viewSlots(x, seen);
        for (int i = 0; i < 3; i++) {
            seen.add((long) x.undo());
            viewNow(x, seen);
        }
        seen.add((long) x.anew());
        viewNow(x, seen);
        for (int k = 0; k < 3; k++) {
            seen.add((long) x.back(k));
            viewNow(x, seen);
            seen.add((long) x.anew());
            viewNow(x, seen);
        }
        viewTape(x, seen);
        return seen;
    }

    private static void viewTold(HoopCabinet x, List<Long> seen) {
        for (int door = x.count(4) - 1; door >= 0; door--) {
            seen.add((long) x.door(door, 0));
            seen.add((long) x.door(door, 1));
            seen.add((long) x.door(door, 2));
        }
        for (int lady = x.count(5) - 1; lady >= 0; lady--) {
            seen.add((long) x.lady(lady, 0));
            seen.add((long) x.lady(lady, 1));
        }
        for (int minister = x.count(6) - 1; minister >= 0; minister--) {
            seen.add((long) x.minister(minister, 0));
            seen.add((long) x.minister(minister, 1));
        }
    }

    private static void viewGoing(HoopCabinet x, List<Long> seen) {
        int last = x.count(1);
        for (int lady = x.count(5) - 1; lady >= 0; lady--) {
            for (int dance = 0; dance <= last; dance += 2) {
                seen.add((long) x.at(lady, dance));
            }
            seen.add((long) x.bidden(lady, last));
            seen.add((long) x.have(lady, last));
        }
    }

    /** Of each row how long it is, what firsts makes of it, and whether two are of one width. */
    private static void viewSlots(HoopCabinet x, List<Long> seen) {
        for (int slot = 0; slot < 4; slot++) {
            seen.add((long) x.firsts(slot));
            seen.add((long) x.leaves(slot));
            int length = -1;
            for (int step = 32; step > 0; step /= 2) {
                length += x.paste(slot, 0, slot, 0, length + step) == 0 ? step : 0;
            }
            seen.add((long) length);
            for (int to = 0; to < slot; to++) {
                seen.add((long) x.paste(slot, 0, to, 0, 0));
            }
        }
    }

    private static void viewNow(HoopCabinet x, List<Long> seen) {
        seen.add((long) x.count(8));
        seen.add((long) x.count(9));
        seen.add((long) x.door(0, 2));
        int last = x.count(1);
        for (int lady = x.count(5) - 1; lady >= 0; lady--) {
            seen.add((long) x.under(lady));
            seen.add((long) x.at(lady, last));
        }
    }

    private static void viewTape(HoopCabinet x, List<Long> seen) {
        seen.add((long) x.ball());
        seen.add((long) x.fault(0));
        seen.add((long) x.fault(1));
        for (int what = 0; what < 11; what++) {
            seen.add((long) x.count(what));
        }
    }
}
