import com.sun.management.ThreadMXBean;
import java.lang.management.ManagementFactory;

/** All rows are made in the constructor: calls make no objects, so that a run of any length keeps to its room. */
public final class RoomTest {
    public static void main(String[] args) {
        HoopCabinet x = Check.told(Balls.ROW);
        askAll(x);
        long spare = made(null);
        long calls = made(x);
        // what measuring makes by itself is the same both times, but for a few bytes
        Check.right("calls make objects: " + (calls - spare) + " bytes", calls - spare < 1000);
        long ahead = bytes();
        HoopCabinet y = new HoopCabinet();
        long object = bytes() - ahead;
        Check.right("a new object is too great: " + object + " bytes", object < 40000 && y.count(9) == 0);
        Check.finish("RoomTest");
    }

    private static long made(HoopCabinet x) {
        long ahead = bytes();
        for (int i = 0; i < 50 && x != null; i++) {
            askAll(x);
        }
        return bytes() - ahead;
    }

    private static long bytes() {
        return ((ThreadMXBean) ManagementFactory.getThreadMXBean()).getThreadAllocatedBytes(Thread.currentThread().getId());
    }

    private static void askAll(HoopCabinet x) {
        for (int i = 0; i < 3; i++) {
            x.feed(i, i, i, i, i);
            x.ball();
            x.end(0);
            x.way(i, 0, 3);
            x.reach(i, 0);
            x.carry(0, 2, 1);
            x.walk(0, 2, 1, 3);
            x.needed(i);
            x.hears(i);
            x.hands(0, i);
            x.best();
            x.widen(0, i);
            x.shut(0, i);
            x.bars(i, 0, 3);
            x.row(i, i, 3);
            x.write(i, 0, 1);
            x.firsts(i);
            x.ask(i);
            x.leaves(i);
            x.paste(i, 0, i, 1, 2);
            x.power(i);
            x.dummies();
            x.strongest();
            x.cabinet();
            x.cabinets();
            x.kingmaker();
            x.part(i, 0);
            x.rests(0, 1);
            x.gains(0, 1, 0, 1);
            x.chance(0, i, 5, 0);
            x.mean(i, 5, 1);
            x.luck(i, 20, 0, 1);
            x.drawn(i, 0, 1);
            x.bid(0, i, 0);
            x.move(0, i);
            x.image(i);
            x.undo();
            x.back(i);
            x.anew();
            x.hang(0, 5);
            x.crushed();
            x.mate(i);
            x.likes(i);
        }
    }
}
