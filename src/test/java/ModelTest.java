import java.util.ArrayList;
import java.util.List;
import java.util.Random;

/** Balls made by chance (always the same ones), each question's answer held against the model's. */
public final class ModelTest {
    private static final int BALLS = 300;
    private static final int TEXTS = 6000;

    private final Random chance;
    private final HoopCabinet x;
    private Model m;

    private ModelTest(long seed) {
        chance = new Random(seed);
        x = new HoopCabinet();
    }

    public static void main(String[] args) {
        for (int i = 0; i < TEXTS; i++) {
            new ModelTest(i).askText();
        }
        for (int i = 0; i < BALLS; i++) {
            ModelTest one = new ModelTest(1000000 + i);
            one.askBall(one.ballText(one.below(4) == 0 ? 14 : 6));
        }
        for (String text : List.of(Balls.FULL, Balls.LONG, Balls.SMALL, Balls.BARE, Balls.ROW, Balls.STAR)) {
            new ModelTest(2000000).askBall(text);
        }
        Check.finish("ModelTest");
    }

    private int below(int n) {
        return chance.nextInt(n);
    }

    // ---- texts, some of them spoilt ----

    private String ballText(int mostDances) {
        StringBuilder text = new StringBuilder();
        int rooms = 1 + below(8);
        text.append("ball rooms ").append(rooms).append(" dances ").append(1 + below(mostDances))
            .append(" law ").append(below(4)).append(" odds ").append(below(11)).append(";");
        int ladies = below(7);
        int widest = 1 + below(9);
        for (int i = below(13); i > 0 && rooms > 1; i--) {
            int room = below(rooms);
            text.append("door ").append(room).append(" to ").append((room + 1 + below(rooms - 1)) % rooms)
                .append(" wide ").append(1 + below(9)).append(" ;\n");
        }
        for (int i = 0; i < ladies; i++) {
            text.append("lady in ").append(below(rooms)).append(" wide ").append(1 + below(widest)).append(";");
        }
        for (int i = below(9); i > 0 && ladies > 0; i--) {
            text.append("minister under ").append(below(ladies)).append(" seats ").append(1 + below(20)).append(";");
        }
        for (int i = below(11); i > 0 && ladies > 0; i--) {
            text.append("bid ").append(below(ladies)).append(" to ").append(below(rooms)).append(" at ").append(below(6)).append(";");
        }
        return text.toString();
    }

    private String spoilt(String text) {
        String[] pieces = {";", " ", "\n", "1", "0", "9", "13", "a", "ball ", "door 0 to 1 wide 1;", "lady in 0 wide 1;",
            "minister under 0 seats 1;", "bid 0 to 0 at 0;", "$", "lady", "to", "99999999999", "\u0080", "Z", "14"};
        int from = below(text.length() + 1);
        int to = Math.min(text.length(), from + below(4));
        String piece = below(3) == 0 ? "" : pieces[below(pieces.length)];
        return text.substring(0, from) + piece + text.substring(to);
    }

    private void askText() {
        String text = ballText(14);
        for (int i = below(3); i > 0; i--) {
            text = spoilt(text);
        }
        if (below(8) == 0) {
            text = text.substring(0, below(text.length() + 1));
        }
        if (text.length() > 1000) {
            return;
        }
        m = Model.read(text);
        Check.tape(x, text);
        Check.due("ball() of " + text, x.ball(), m.fault != 0 ? -4 : m.lines);
        Check.due("fault(0) of " + text, x.fault(0), m.fault);
        Check.due("fault(1) of " + text, x.fault(1), m.place);
        Check.due("bytes behind " + text, x.count(10), m.fault != 0 ? text.length() : 0);
        Check.due("LINES of " + text, x.count(9), m.fault != 0 ? 0 : m.lines);
        if (m.fault == 0) {
            askTold();
        }
    }

    private void askTold() {
        int[] want = {m.rooms, m.dances, m.law, m.odds, m.doors.size(), m.ladies.size(), m.ministers.size(), m.bids.size()};
        for (int what = 0; what < want.length; what++) {
            Check.due("count(" + what + ")", x.count(what), want[what]);
        }
        for (int i = 0; i < m.doors.size(); i++) {
            for (int what = 0; what < 3; what++) {
                Check.due("door", x.door(i, what), m.doors.get(i)[what]);
            }
        }
        for (int i = 0; i < m.ladies.size(); i++) {
            Check.due("lady", x.lady(i, 0), m.ladies.get(i)[0]);
            Check.due("lady", x.lady(i, 1), m.ladies.get(i)[1]);
        }
        for (int i = 0; i < m.ministers.size(); i++) {
            Check.due("minister", x.minister(i, 0), m.ministers.get(i)[0]);
            Check.due("minister", x.minister(i, 1), m.ministers.get(i)[1]);
        }
    }

    // ---- balls, with acts ----

    private void askBall(String text) {
        m = Model.read(text);
        Check.tape(x, text);
        Check.due("ball()", x.ball(), m.lines);
        askAll();
        List<Model> past = new ArrayList<>();
        for (int i = m.ladies.isEmpty() ? 0 : below(10); i > 0; i--) {
            past.add(m.copy());
            act();
        }
        askAll();
        x.image(1);
        Model kept = m;
        while (!past.isEmpty()) {
            m = past.remove(past.size() - 1);
            Check.due("undo()", x.undo(), past.size());
        }
        askAll();
        x.back(1);
        m = kept;
        askFloor();
        x.anew();
        m = Model.read(text);
        hang();
        askAll();
    }

    private void act() {
        int lady = below(m.ladies.size());
        if (!m.ministers.isEmpty() && below(2) == 0) {
            int minister = below(m.ministers.size());
            Check.due("move", x.move(minister, lady), m.ministers.get(minister)[0]);
            m.ministers.get(minister)[0] = lady;
        } else {
            int[] bid = {lady, below(m.rooms), below(8)};
            m.bids.add(bid);
            Check.due("bid", x.bid(lady, bid[1], bid[2]), m.at(lady, m.dances));
        }
    }

    private void hang() {
        if (!m.doors.isEmpty()) {
            int[] door = m.doors.get(below(m.doors.size()));
            int wide = 1 + below(9);
            Check.due("hang", x.hang(m.doors.indexOf(door), wide), door[2]);
            door[2] = wide;
        }
    }

    private void askAll() {
        askFloor();
        askNotes();
        askHouse();
        askSeen();
        askChances();
        for (int i = 0; i < 5; i++) {
            askCarry();
        }
    }

    private void askFloor() {
        int[][] where = m.places();
        int ladies = m.ladies.size();
        int crush = 0;
        int crushed = -1;
        for (int dance = 0; dance <= m.dances; dance++) {
            int alone = 0;
            int empty = 0;
            for (int room = 0; room < m.rooms; room++) {
                int within = 0;
                for (int lady = 0; lady < ladies; lady++) {
                    within |= where[lady][dance] == room ? 1 << lady : 0;
                }
                Check.due("within", x.within(room, dance), within);
                alone |= Integer.bitCount(within) == 1 ? within : 0;
                empty |= within == 0 ? 1 << room : 0;
                if (Integer.bitCount(within) > crush || crushed < 0) {
                    crush = Integer.bitCount(within);
                    crushed = dance;
                }
            }
            Check.due("alone", x.alone(dance), alone);
            Check.due("empty", x.empty(dance), empty);
        }
        Check.due("crush", x.crush(), crush);
        Check.due("crushed", x.crushed(), crushed);
        for (int lady = 0; lady < ladies; lady++) {
            askWays(lady);
            askLady(where, lady);
            askMeetings(where, lady);
        }
    }

    private void askWays(int lady) {
        for (int room = 0; room < m.rooms; room++) {
            int reach = 0;
            for (int other = 0; other < m.rooms; other++) {
                int way = m.way(lady, room, other);
                Check.due("way", x.way(lady, room, other), way);
                reach |= way >= 0 ? 1 << other : 0;
                int bars = -1;
                for (int wide = 9; wide > 0; wide--) {
                    Model wider = m.copy();
                    for (int[] door : wider.doors) {
                        door[2] = wide;
                    }
                    bars = wider.way(lady, room, other) >= 0 ? wide : bars;
                }
                Check.due("bars", x.bars(lady, room, other), bars);
            }
            Check.due("reach", x.reach(lady, room), reach);
        }
    }

    private void askLady(int[][] where, int lady) {
        int steps = 0;
        int sees = 0;
        int late = -1;
        int waits = 0;
        int[] often = new int[m.rooms];
        for (int dance = 0; dance <= m.dances; dance++) {
            int room = where[lady][dance];
            int bidden = m.bidden(lady, dance);
            Check.due("at", x.at(lady, dance), room);
            Check.due("bidden", x.bidden(lady, dance), bidden);
            sees |= 1 << room;
            often[room]++;
            if (dance > 0 && where[lady][dance - 1] != room) {
                steps++;
                late = dance;
            }
            waits += dance < m.dances && bidden >= 0 && m.way(lady, room, bidden) < 0 ? 1 : 0;
        }
        int likes = 0;
        for (int room = 1; room < m.rooms; room++) {
            likes = often[room] > often[likes] ? room : likes;
        }
        Check.due("steps", x.steps(lady), steps);
        Check.due("sees", x.sees(lady), sees);
        Check.due("late", x.late(lady), late);
        Check.due("waits", x.waits(lady), waits);
        Check.due("likes", x.likes(lady), likes);
    }

    private void askMeetings(int[][] where, int lady) {
        int friends = 0;
        int mate = -1;
        int most = 0;
        for (int other = 0; other < where.length; other++) {
            int meets = -1;
            int often = 0;
            for (int dance = m.dances; dance >= 0; dance--) {
                if (where[lady][dance] == where[other][dance]) {
                    meets = dance;
                    often++;
                }
                Check.due("apart", x.apart(lady, other, dance), m.way(lady, where[lady][dance], where[other][dance]));
            }
            Check.due("meets", x.meets(lady, other), meets);
            Check.due("often", x.often(lady, other), often);
            friends |= other != lady && often > 0 ? 1 << other : 0;
            if (other != lady && often > most) {
                most = often;
                mate = other;
            }
        }
        Check.due("friends", x.friends(lady), friends);
        Check.due("mate", x.mate(lady), mate);
    }

    private void askNotes() {
        int[][] where = m.places();
        int ladies = m.ladies.size();
        int[] hears = new int[ladies];
        int best = -1;
        int most = 0;
        for (int first = 0; first < ladies; first++) {
            int[][] got = m.spread(where, m.law, first, -1, 0);
            int inTheEnd = Model.bits(got, m.dances);
            askNote(got, first, where);
            for (int lady = 0; lady < ladies; lady++) {
                hears[lady] |= (inTheEnd >> lady & 1) << first;
            }
            if (Integer.bitCount(inTheEnd) > most) {
                most = Integer.bitCount(inTheEnd);
                best = first;
            }
            for (int law = 0; law < 4; law++) {
                Check.due("by", x.by(first, law), Model.bits(m.spread(where, law, first, -1, 0), m.dances));
            }
            askDoors(first);
        }
        Check.due("best", x.best(), best);
        for (int lady = 0; lady < ladies; lady++) {
            Check.due("hears", x.hears(lady), hears[lady]);
        }
    }

    private void askNote(int[][] got, int first, int[][] where) {
        int ladies = got.length;
        int all = -1;
        for (int dance = m.dances; dance >= 0; dance--) {
            Check.due("have", x.have(first, dance), Model.bits(got, dance));
            all = Model.bits(got, dance) == (1 << ladies) - 1 ? dance : all;
        }
        Check.due("all", x.all(first), all);
        int lasts = -1;
        int needed = 0;
        for (int lady = 0; lady < ladies; lady++) {
            Check.due("gets", x.gets(first, lady), got[lady][0]);
            Check.due("from", x.from(first, lady), got[lady][1]);
            int hands = 0;
            for (int one = lady; got[one][1] >= 0; one = got[one][1]) {
                hands++;
            }
            Check.due("hands", x.hands(first, lady), got[lady][0] < 0 ? -1 : hands);
            if (lady != first) {
                lasts = Math.max(lasts, got[lady][0]);
                int without = Model.bits(m.spread(where, m.law, first, lady, 0), m.dances) | 1 << lady;
                needed |= (Model.bits(got, m.dances) & ~without) != 0 ? 1 << lady : 0;
            }
        }
        Check.due("lasts", x.lasts(first), lasts);
        Check.due("needed", x.needed(first), needed);
    }

    private void askDoors(int first) {
        for (int i = 0; i < m.doors.size(); i++) {
            Model other = m.copy();
            int best = 0;
            int most = -1;
            for (int wide = 1; wide <= 9; wide++) {
                other.doors.get(i)[2] = wide;
                int many = Integer.bitCount(Model.bits(other.spread(other.places(), m.law, first, -1, 0), m.dances));
                if (many > most) {
                    most = many;
                    best = wide;
                }
            }
            Check.due("widen", x.widen(first, i), best);
            other.doors.remove(i);
            Check.due("shut", x.shut(first, i), Model.bits(other.spread(other.places(), m.law, first, -1, 0), m.dances));
        }
    }

    private void askHouse() {
        int ladies = m.ladies.size();
        int everybody = (1 << ladies) - 1;
        for (int set = 0; set <= everybody; set++) {
            Check.due("holds", x.holds(set), m.holds(set) ? 1 : 0);
            Check.due("blocks", x.blocks(set), m.holds(everybody - set) ? 0 : 1);
        }
        int dummies = 0;
        int strongest = -1;
        int most = 0;
        int total = m.ministers.stream().mapToInt(row -> row[1]).sum();
        for (int lady = 0; lady < ladies; lady++) {
            int power = m.power(lady);
            int seats = m.seats(lady);
            int under = 0;
            for (int i = 0; i < m.ministers.size(); i++) {
                under |= m.ministers.get(i)[0] == lady ? 1 << i : 0;
            }
            Check.due("power", x.power(lady), power);
            Check.due("seats", x.seats(lady), seats);
            Check.due("under", x.under(lady), under);
            dummies |= power == 0 ? 1 << lady : 0;
            if (power > most) {
                most = power;
                strongest = lady;
            }
            int divisor = total == 0 ? 1 : java.math.BigInteger.valueOf(seats).gcd(java.math.BigInteger.valueOf(total)).intValue();
            Check.due("part", x.part(lady, 0), total == 0 ? -1 : seats / divisor);
            Check.due("part", x.part(lady, 1), total == 0 ? -1 : total / divisor);
        }
        Check.due("dummies", x.dummies(), dummies);
        Check.due("strongest", x.strongest(), strongest);
        Check.due("cabinet", x.cabinet(), m.cabinet());
        Check.due("cabinets", x.cabinets(), m.cabinets());
        Check.due("kingmaker", x.kingmaker(), m.kingmaker());
    }

    private void askSeen() {
        int ladies = m.ladies.size();
        int n = ladies == 0 ? 0 : below(4);
        long[] numbers = new long[3 * n];
        for (int i = 0; i < n; i++) {
            numbers[3 * i] = below(ladies);
            numbers[3 * i + 1] = below(m.dances + 1);
            numbers[3 * i + 2] = below(2);
        }
        Check.row(x, 2, below(4), numbers);
        int[][] where = m.places();
        int firsts = 0;
        for (int first = 0; first < ladies; first++) {
            int[][] got = m.spread(where, m.law, first, -1, 0);
            boolean agrees = true;
            for (int i = 0; i < n; i++) {
                agrees &= (Model.bits(got, (int) numbers[3 * i + 1]) >> numbers[3 * i] & 1) == numbers[3 * i + 2];
            }
            firsts |= agrees ? 1 << first : 0;
        }
        int ask = -1;
        int leaves = Integer.bitCount(firsts);
        for (int lady = 0; lady < ladies; lady++) {
            int[] answers = new int[m.dances + 2];
            int worst = 0;
            for (int first = 0; first < ladies; first++) {
                if ((firsts >> first & 1) != 0) {
                    int answer = m.spread(where, m.law, first, -1, 0)[lady][0] + 1;
                    answers[answer]++;
                    worst = Math.max(worst, answers[answer]);
                }
            }
            if (worst < leaves) {
                leaves = worst;
                ask = lady;
            }
        }
        Check.due("firsts", x.firsts(2), firsts);
        Check.due("ask", x.ask(2), ask);
        Check.due("leaves", x.leaves(2), leaves);
    }

    private void askChances() {
        int ladies = m.ladies.size();
        if (ladies == 0) {
            return;
        }
        int first = below(ladies);
        int lady = below(ladies);
        int dance = below(Math.min(8, m.dances) + 1);
        long[] fraction = m.fraction(first, lady, dance);
        Check.due("chance", x.chance(first, lady, dance, 0), fraction[0]);
        Check.due("chance", x.chance(first, lady, dance, 1), fraction[1]);
        long[] mean = m.fraction(first, -1, dance);
        Check.due("mean", x.mean(first, dance, 0), mean[0]);
        Check.due("mean", x.mean(first, dance, 1), mean[1]);
        int seed = below(2000000001);
        int n = 1 + below(20);
        int luck = 0;
        for (int i = 0; i < n; i++) {
            int loud = m.loud(seed + i);
            int have = Model.bits(m.spread(m.places(), m.law, first, -1, loud), m.dances);
            if (i == 0) {
                Check.due("drawn", x.drawn(seed, first, 0), loud);
                Check.due("drawn", x.drawn(seed, first, 1), have);
            }
            luck += have >> lady & 1;
        }
        Check.due("luck", x.luck(seed, n, first, lady), luck);
        if (ladies > 1) {
            askGame(lady, (lady + 1 + below(ladies - 1)) % ladies);
        }
    }

    private void askGame(int lady, int other) {
        int rests = 0;
        for (int x0 = 0; x0 < 2; x0++) {
            for (int y0 = 0; y0 < 2; y0++) {
                int mine = m.gains(lady, other, x0, y0);
                int hers = m.gains(other, lady, y0, x0);
                Check.due("gains", x.gains(lady, other, x0, y0), mine);
                Check.due("gains", x.gains(other, lady, y0, x0), hers);
                boolean rest = mine >= m.gains(lady, other, 1 - x0, y0) && hers >= m.gains(other, lady, 1 - y0, x0);
                rests |= rest ? 1 << x0 + 2 * y0 : 0;
            }
        }
        Check.due("rests", x.rests(lady, other), rests);
    }

    private void askCarry() {
        int ladies = m.ladies.size();
        if (ladies < 2) {
            return;
        }
        int first = below(ladies);
        int lady = below(ladies);
        int other = (lady + 1 + below(ladies - 1)) % ladies;
        int[] walk = m.firstWalk(first, lady, other);
        Check.due("carry", x.carry(first, lady, other), walk == null ? -1 : walk.length - 1);
        for (int dance = 0; dance <= m.dances; dance++) {
            int room = walk == null ? -1 : walk[Math.min(dance, walk.length - 1)];
            Check.due("walk", x.walk(first, lady, other, dance), room);
        }
    }
}
