import java.util.ArrayList;
import java.util.List;
import java.util.function.Supplier;

/**
 * "-2: there are none such" and its like, of every promise that takes numbers: each number at the least and the greatest
 * that is taken, and one beyond either (and far beyond); a refused call leaves all as it was, and what is taken does not
 * depend on what was asked ahead of it. The balls are the fullest one, the smallest one, one with nobody in it, and none.
 */
public final class BoundsTest {
    private interface Ask {
        long on(HoopCabinet x, int[] a);
    }

    /** Kinds of numbers; how great the first seven can be the ball says. */
    private enum Kind {
        LADY, OTHER, ROOM, DOOR, MINISTER, DANCE, SET,
        PART(0, 1), OF_DOOR(0, 2), LAW(0, 3), CHANCE(0, 8), AT(0, 13), SEED(0, 2000000000), TWENTY(1, 20), WIDE(1, 9),
        IMAGE(0, 2), SLOT(0, 3), WIDTH(0, 3);

        private final int low;
        private final int high;

        Kind() {
            this(0, -1);
        }

        Kind(int low, int high) {
            this.low = low;
            this.high = high;
        }
    }

    private final String name;
    private final String text;
    private final Supplier<HoopCabinet> start;

    private BoundsTest(String name, String text, int acts) {
        this.name = name;
        this.text = text;
        start = () -> prepared(text, acts);
    }

    public static void main(String[] args) {
        new BoundsTest("full", Balls.FULL, 0).askAll();
        new BoundsTest("small", Balls.SMALL, 0).askAll();
        new BoundsTest("bare", Balls.BARE, 0).askAll();
        new BoundsTest("no ball", "", 0).askAll();
        // -2 is asked ahead of -5
        new BoundsTest("full of acts", Balls.FULL, 30).askAll();
        Check.finish("BoundsTest");
    }

    /** With rows in two slots, an image, and bytes on the tape, so that what a refused call did to them would be seen. */
    private static HoopCabinet prepared(String text, int acts) {
        HoopCabinet x = Check.told(text);
        for (int i = 0; i < acts; i++) {
            x.bid(i % 6, i % 8, i % 14);
        }
        Check.row(x, 0, 0, 0, 1, 1);
        Check.row(x, 3, 3, 0, 0, 0, 0, 1, 1);
        x.image(1);
        Check.tape(x, "ball rooms 2");
        return x;
    }

    private int high(Kind kind) {
        HoopCabinet x = Check.told(text);
        boolean told = x.count(9) > 0;
        switch (kind) {
            case LADY: case OTHER: return x.count(5) - 1;
            case ROOM: return x.count(0) - 1;
            case DOOR: return x.count(4) - 1;
            case MINISTER: return x.count(6) - 1;
            case DANCE: return told ? x.count(1) : -1;
            case CHANCE: return told ? Math.min(x.count(1), kind.high) : -1;
            case SET: return told ? (1 << x.count(5)) - 1 : -1;
            default: return kind.high;
        }
    }

    private void askAll() {
        askFloor();
        askNotes();
        askHouse();
        askActs();
        askSlots();
    }

    private void askFloor() {
        ask("6 door", (x, a) -> x.door(a[0], a[1]), Kind.DOOR, Kind.OF_DOOR);
        ask("7 lady", (x, a) -> x.lady(a[0], a[1]), Kind.LADY, Kind.PART);
        ask("8 minister", (x, a) -> x.minister(a[0], a[1]), Kind.MINISTER, Kind.PART);
        ask("9 way", (x, a) -> x.way(a[0], a[1], a[2]), Kind.LADY, Kind.ROOM, Kind.ROOM);
        ask("10 reach", (x, a) -> x.reach(a[0], a[1]), Kind.LADY, Kind.ROOM);
        ask("11 bidden", (x, a) -> x.bidden(a[0], a[1]), Kind.LADY, Kind.DANCE);
        ask("12 at", (x, a) -> x.at(a[0], a[1]), Kind.LADY, Kind.DANCE);
        ask("13 within", (x, a) -> x.within(a[0], a[1]), Kind.ROOM, Kind.DANCE);
        ask("14 steps", (x, a) -> x.steps(a[0]), Kind.LADY);
        ask("15 sees", (x, a) -> x.sees(a[0]), Kind.LADY);
        ask("16 meets", (x, a) -> x.meets(a[0], a[1]), Kind.LADY, Kind.LADY);
        ask("17 often", (x, a) -> x.often(a[0], a[1]), Kind.LADY, Kind.LADY);
        ask("18 friends", (x, a) -> x.friends(a[0]), Kind.LADY);
        ask("19 crush", (x, a) -> x.crush());
        ask("20 crushed", (x, a) -> x.crushed());
        ask("21 likes", (x, a) -> x.likes(a[0]), Kind.LADY);
        ask("22 apart", (x, a) -> x.apart(a[0], a[1], a[2]), Kind.LADY, Kind.LADY, Kind.DANCE);
        ask("23 alone", (x, a) -> x.alone(a[0]), Kind.DANCE);
        ask("24 empty", (x, a) -> x.empty(a[0]), Kind.DANCE);
        ask("25 late", (x, a) -> x.late(a[0]), Kind.LADY);
        ask("26 waits", (x, a) -> x.waits(a[0]), Kind.LADY);
        ask("27 mate", (x, a) -> x.mate(a[0]), Kind.LADY);
    }

    private void askNotes() {
        ask("28 hears", (x, a) -> x.hears(a[0]), Kind.LADY);
        ask("29 hands", (x, a) -> x.hands(a[0], a[1]), Kind.LADY, Kind.LADY);
        ask("33 have", (x, a) -> x.have(a[0], a[1]), Kind.LADY, Kind.DANCE);
        ask("34 gets", (x, a) -> x.gets(a[0], a[1]), Kind.LADY, Kind.LADY);
        ask("35 from", (x, a) -> x.from(a[0], a[1]), Kind.LADY, Kind.LADY);
        ask("36 all", (x, a) -> x.all(a[0]), Kind.LADY);
        ask("37 best", (x, a) -> x.best());
        ask("38 lasts", (x, a) -> x.lasts(a[0]), Kind.LADY);
        ask("39 needed", (x, a) -> x.needed(a[0]), Kind.LADY);
        ask("40 by", (x, a) -> x.by(a[0], a[1]), Kind.LADY, Kind.LAW);
        ask("41 carry", (x, a) -> x.carry(a[0], a[1], a[2]), Kind.LADY, Kind.LADY, Kind.OTHER);
        ask("42 walk", (x, a) -> x.walk(a[0], a[1], a[2], a[3]), Kind.LADY, Kind.LADY, Kind.OTHER, Kind.DANCE);
        ask("43 widen", (x, a) -> x.widen(a[0], a[1]), Kind.LADY, Kind.DOOR);
        ask("44 shut", (x, a) -> x.shut(a[0], a[1]), Kind.LADY, Kind.DOOR);
        ask("45 bars", (x, a) -> x.bars(a[0], a[1], a[2]), Kind.LADY, Kind.ROOM, Kind.ROOM);
    }

    private void askHouse() {
        ask("30 dummies", (x, a) -> x.dummies());
        ask("32 strongest", (x, a) -> x.strongest());
        ask("54 cabinet", (x, a) -> x.cabinet());
        ask("55 cabinets", (x, a) -> x.cabinets());
        ask("56 kingmaker", (x, a) -> x.kingmaker());
        ask("31 blocks", (x, a) -> x.blocks(a[0]), Kind.SET);
        ask("49 seats", (x, a) -> x.seats(a[0]), Kind.LADY);
        ask("50 under", (x, a) -> x.under(a[0]), Kind.LADY);
        ask("51 holds", (x, a) -> x.holds(a[0]), Kind.SET);
        ask("52 power", (x, a) -> x.power(a[0]), Kind.LADY);
        ask("53 part", (x, a) -> x.part(a[0], a[1]), Kind.LADY, Kind.PART);
        ask("57 rests", (x, a) -> x.rests(a[0], a[1]), Kind.LADY, Kind.OTHER);
        // -1,000 in place of -2
        ask("58 gains", (x, a) -> x.gains(a[0], a[1], a[2], a[3]) == -1000 ? -2 : 0, Kind.LADY, Kind.OTHER, Kind.PART, Kind.PART);
        ask("59 chance", (x, a) -> x.chance(a[0], a[1], a[2], a[3]), Kind.LADY, Kind.LADY, Kind.CHANCE, Kind.PART);
        ask("60 mean", (x, a) -> x.mean(a[0], a[1], a[2]), Kind.LADY, Kind.CHANCE, Kind.PART);
        ask("65 drawn", (x, a) -> x.drawn(a[0], a[1], a[2]), Kind.SEED, Kind.LADY, Kind.PART);
        ask("66 luck", (x, a) -> x.luck(a[0], a[1], a[2], a[3]), Kind.SEED, Kind.TWENTY, Kind.LADY, Kind.LADY);
    }

    private void askActs() {
        ask("61 bid", (x, a) -> x.bid(a[0], a[1], a[2]), Kind.LADY, Kind.ROOM, Kind.AT);
        ask("62 move", (x, a) -> x.move(a[0], a[1]), Kind.MINISTER, Kind.LADY);
        ask("63 undo", (x, a) -> x.undo());
        ask("64 anew", (x, a) -> x.anew());
        ask("67 hang", (x, a) -> x.hang(a[0], a[1]), Kind.DOOR, Kind.WIDE);
        ask("69 image", (x, a) -> x.image(a[0]), Kind.IMAGE);
        ask("70 back", (x, a) -> x.back(a[0]), Kind.IMAGE);
    }

    private void askSlots() {
        ask("71 row", (x, a) -> x.row(a[0], a[1], 60), Kind.SLOT, Kind.WIDTH);
        ask("72 write", (x, a) -> x.write(a[0], 0, 1), Kind.SLOT);
        ask("73 paste", (x, a) -> x.paste(a[0], 0, a[1], 0, 1), Kind.SLOT, Kind.SLOT);
    }

    private void ask(String call, Ask ask, Kind... kinds) {
        askTaken(call, ask, kinds);
        for (int k = 0; k < kinds.length; k++) {
            int low = kinds[k].low;
            int high = high(kinds[k]);
            for (int beyond : new int[] {low - 1, Math.max(low, high + 1), Integer.MIN_VALUE, Integer.MAX_VALUE}) {
                askRefused(call, ask, kinds, k, beyond);
            }
        }
    }

    /** Every number at either end. */
    private void askTaken(String call, Ask ask, Kind... kinds) {
        for (int ends = 0; ends < 1 << kinds.length; ends++) {
            int[] a = new int[kinds.length];
            // what takes no numbers asks for a ball alone
            boolean some = kinds.length > 0 || high(Kind.DANCE) >= 0;
            for (int k = 0; k < kinds.length; k++) {
                int high = high(kinds[k]);
                some &= high >= kinds[k].low && !(kinds[k] == Kind.OTHER && high == 0);
                a[k] = (ends >> k & 1) == 0 ? kinds[k].low : high;
            }
            int other = List.of(kinds).indexOf(Kind.OTHER);
            boolean twice = other > 0 && a[other] == a[other - 1];
            String told = told(call, a) + " is " + (some && !twice ? "refused" : "taken");
            long answer = ask.on(start.get(), a);
            Check.due(told, answer == -2 ? 1 : 0, some && !twice ? 0 : 1);
            Check.due(told(call, a) + " of one who was asked much", ask.on(stirred(start.get()), a), answer);
        }
    }

    /** Asked for all that works on rows of its own, by other ladies, laws and dances than those at the ends. */
    private static HoopCabinet stirred(HoopCabinet x) {
        for (int i = 0; i < 4; i++) {
            x.have(2, i);
            x.hears(3);
            x.needed(1);
            x.carry(i, 2, 4);
            x.walk(i, 2, 4, 3);
            x.widen(2, i);
            x.shut(3, i);
            x.bars(3, i, 4);
            x.firsts(i);
            x.ask(i);
            x.leaves(i);
            x.part(i, 0);
            x.kingmaker();
            x.rests(i, 4);
            x.gains(i, 4, 1, 1);
            x.chance(1, 2, i, 0);
            x.mean(2, i, 1);
            x.luck(i, 3, 1, 2);
            x.drawn(i, 3, 1);
            x.by(2, i);
        }
        return x;
    }

    private void askRefused(String call, Ask ask, Kind[] kinds, int k, int beyond) {
        int[] a = new int[kinds.length];
        for (int i = 0; i < a.length; i++) {
            a[i] = Math.max(kinds[i].low, high(kinds[i]));
            // two who must be unlike
            a[i] = kinds[i] == Kind.OTHER ? 0 : a[i];
        }
        a[k] = beyond;
        Twins.refused(told(call, a), start, x -> ask.on(x, a), -2);
    }

    private String told(String call, int[] a) {
        List<String> numbers = new ArrayList<>();
        for (int number : a) {
            numbers.add(Integer.toString(number));
        }
        return name + ": promise " + call + "(" + String.join(", ", numbers) + ")";
    }
}
