/** What each promise answers without a ball: of a new object, and behind a ball of no lines. */
public final class NoBallTest {
    public static void main(String[] args) {
        askAll(new HoopCabinet());
        HoopCabinet x = Check.told(Balls.ROW);
        x.move(0, 1);
        x.end(0);
        Check.due("ball() of nothing", x.ball(), 0);
        askAll(x);
        Check.due("no acts", x.count(8), 0);
        Check.finish("NoBallTest");
    }

    private static void no(String call, long got) {
        Check.due(call + " without a ball", got, -2);
    }

    private static void askAll(HoopCabinet x) {
        askFloor(x);
        askNotes(x);
        askHouse(x);
        askRest(x);
    }

    private static void askFloor(HoopCabinet x) {
        no("door", x.door(0, 0));
        no("lady", x.lady(0, 0));
        no("minister", x.minister(0, 0));
        no("way", x.way(0, 0, 0));
        no("reach", x.reach(0, 0));
        no("bidden", x.bidden(0, 0));
        no("at", x.at(0, 0));
        no("within", x.within(0, 0));
        no("steps", x.steps(0));
        no("sees", x.sees(0));
        no("meets", x.meets(0, 0));
        no("often", x.often(0, 0));
        no("friends", x.friends(0));
        no("crush", x.crush());
        no("crushed", x.crushed());
        no("likes", x.likes(0));
        no("apart", x.apart(0, 0, 0));
        no("alone", x.alone(0));
        no("empty", x.empty(0));
        no("late", x.late(0));
        no("waits", x.waits(0));
        no("mate", x.mate(0));
    }

    private static void askNotes(HoopCabinet x) {
        no("hears", x.hears(0));
        no("hands", x.hands(0, 0));
        no("have", x.have(0, 0));
        no("gets", x.gets(0, 0));
        no("from", x.from(0, 0));
        no("all", x.all(0));
        no("best", x.best());
        no("lasts", x.lasts(0));
        no("needed", x.needed(0));
        no("by", x.by(0, 0));
        no("carry", x.carry(0, 0, 1));
        no("walk", x.walk(0, 0, 1, 0));
        no("widen", x.widen(0, 0));
        no("shut", x.shut(0, 0));
        no("bars", x.bars(0, 0, 0));
        no("firsts", x.firsts(0));
        no("ask", x.ask(0));
        no("leaves", x.leaves(0));
    }

    private static void askHouse(HoopCabinet x) {
        no("seats", x.seats(0));
        no("under", x.under(0));
        no("holds", x.holds(0));
        no("blocks", x.blocks(0));
        no("power", x.power(0));
        no("part", x.part(0, 0));
        no("cabinet", x.cabinet());
        no("cabinets", x.cabinets());
        no("kingmaker", x.kingmaker());
        no("dummies", x.dummies());
        no("strongest", x.strongest());
    }

    private static void askRest(HoopCabinet x) {
        no("rests", x.rests(0, 1));
        Check.due("gains without a ball", x.gains(0, 1, 0, 0), -1000);
        no("chance", x.chance(0, 0, 0, 0));
        no("mean", x.mean(0, 0, 0));
        no("bid", x.bid(0, 0, 0));
        no("move", x.move(0, 0));
        no("undo", x.undo());
        no("anew", x.anew());
        no("drawn", x.drawn(0, 0, 0));
        no("luck", x.luck(0, 1, 0, 0));
        no("hang", x.hang(0, 1));
    }
}
