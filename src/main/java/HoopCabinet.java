import java.util.Arrays;

/** A ball told as a text: who goes where, who has a note when, and who holds the house. */
public final class HoopCabinet {
    public static final int NONE = -1;

    private static final int NO_SUCH = -2;
    private static final int NEGATIVE_SIZE = -3;
    private static final int FAULTY = -4;
    private static final int REFUSED = -5;
    private static final int NOTHING = -6;
    private static final int BEYOND = -7;
    private static final int UNLIKE = -8;
    private static final int NO_GAIN = -1000;

    private static final int TAPE_LIMIT = 1000;
    private static final int FEED_BYTES = 20;
    private static final int MAX_ROOMS = 8;
    private static final int MAX_LADIES = 6;
    /** Dances are counted from 0 to 14, both told. */
    private static final int MAX_ROUNDS = 15;
    private static final int SETS = 64;
    private static final int WIDEST = 9;
    private static final int LAST_BID = 13;
    private static final int LAST_CHANCE = 8;
    private static final int LAST_SEED = 2000000000;
    private static final int MOST_DRAWN = 20;
    private static final int IMAGES = 3;
    private static final int SLOTS = 4;
    /** In place of a door's number: no door is changed, or each one is. */
    private static final int NO_DOOR = -1;
    private static final int EVERY_DOOR = -2;

    private final byte[] tape;
    private int tapeLength;
    private final Reader reader;
    private final Ball now;
    private final Ball draft;
    private final Ball[] images;
    private final boolean[] kept;
    private final Slot[] slots;
    private final Floor floor;
    /** The floor of what might be: other doors, ladies who stay. */
    private final Floor trial;
    private final Notes notes;
    private final Carrier carrier;
    private final House house;
    private final Music music;
    /** For ask: how many of the FIRSTS each answer leaves, "never" at 0. */
    private final int[] answers;

    public HoopCabinet() {
        tape = new byte[TAPE_LIMIT];
        tapeLength = 0;
        now = new Ball();
        draft = new Ball();
        reader = new Reader(tape, draft);
        images = new Ball[IMAGES];
        kept = new boolean[IMAGES];
        for (int k = 0; k < IMAGES; k++) {
            images[k] = new Ball();
        }
        slots = new Slot[SLOTS];
        for (int k = 0; k < SLOTS; k++) {
            slots[k] = new Slot();
        }
        floor = new Floor();
        trial = new Floor();
        notes = new Notes();
        carrier = new Carrier();
        house = new House();
        music = new Music();
        answers = new int[MAX_ROUNDS + 1];
    }

    // ---- the tape and the text ----

    public int feed(int a, int b, int c, int d, int e) {
        if (tapeLength > TAPE_LIMIT - FEED_BYTES) {
            return NONE;
        }
        appendFour(a);
        appendFour(b);
        appendFour(c);
        appendFour(d);
        appendFour(e);
        return tapeLength;
    }

    private void appendFour(int bytes) {
        for (int shift = 24; shift >= 0; shift -= 8) {
            if (tapeLength >= 0 && tapeLength < tape.length) {
                tape[tapeLength] = (byte) (bytes >>> shift);
                tapeLength++;
            }
        }
    }

    public int end(int n) {
        if (n < 0 || n > tapeLength) {
            return NONE;
        }
        tapeLength = n;
        return n;
    }

    public int ball() {
        reader.read(tapeLength);
        if (reader.fault != 0) {
            return FAULTY;
        }
        now.copyFrom(draft);
        tapeLength = 0;
        settle();
        return now.lines;
    }

    public int fault(int what) {
        if (what == 0) {
            return reader.fault;
        }
        return what == 1 ? reader.faultPlace : NONE;
    }

    private void settle() {
        floor.settle(now, NO_DOOR, 0);
    }

    // ---- what was told ----

    public int door(int door, int what) {
        return now.doors.hasCell(door, what) ? now.doors.cell(door, what) : NO_SUCH;
    }

    public int lady(int lady, int what) {
        return now.ladies.hasCell(lady, what) ? now.ladies.cell(lady, what) : NO_SUCH;
    }

    public int minister(int minister, int what) {
        return now.ministers.hasCell(minister, what) ? now.ministers.cell(minister, what) : NO_SUCH;
    }

    // ---- where each goes ----

    public int way(int lady, int room, int other) {
        if (!now.hasLady(lady) || !now.hasRoom(room) || !now.hasRoom(other)) {
            return NO_SUCH;
        }
        return floor.distance(lady, room, other);
    }

    public int reach(int lady, int room) {
        if (!now.hasLady(lady) || !now.hasRoom(room)) {
            return NO_SUCH;
        }
        return floor.reachable(lady, room);
    }

    public int bidden(int lady, int dance) {
        if (!now.hasLady(lady) || !now.hasDance(dance)) {
            return NO_SUCH;
        }
        return floor.goalOf(lady, dance);
    }

    public int at(int lady, int dance) {
        if (!now.hasLady(lady) || !now.hasDance(dance)) {
            return NO_SUCH;
        }
        return floor.placeOf(lady, dance);
    }

    public int within(int room, int dance) {
        if (!now.hasRoom(room) || !now.hasDance(dance)) {
            return NO_SUCH;
        }
        return floor.ladiesIn(room, dance);
    }

    public int steps(int lady) {
        return now.hasLady(lady) ? floor.stepsOf(lady) : NO_SUCH;
    }

    public int sees(int lady) {
        if (!now.hasLady(lady)) {
            return NO_SUCH;
        }
        int seen = 0;
        for (int dance = 0; dance <= now.dances; dance++) {
            seen |= 1 << floor.placeOf(lady, dance);
        }
        return seen;
    }

    public int meets(int lady, int other) {
        if (!now.hasLady(lady) || !now.hasLady(other)) {
            return NO_SUCH;
        }
        for (int dance = 0; dance <= now.dances; dance++) {
            if (hasBit(floor.companyOf(lady, dance), other)) {
                return dance;
            }
        }
        return NONE;
    }

    public int often(int lady, int other) {
        if (!now.hasLady(lady) || !now.hasLady(other)) {
            return NO_SUCH;
        }
        return floor.meetingsOf(lady, other);
    }

    public int friends(int lady) {
        return now.hasLady(lady) ? floor.friendsOf(lady) : NO_SUCH;
    }

    public int crush() {
        if (!now.isTold()) {
            return NO_SUCH;
        }
        int most = 0;
        for (int dance = 0; dance <= now.dances; dance++) {
            most = Math.max(most, fullest(dance));
        }
        return most;
    }

    public int crushed() {
        int most = crush();
        if (most < 0) {
            return NO_SUCH;
        }
        for (int dance = 0; dance <= now.dances; dance++) {
            if (fullest(dance) == most) {
                return dance;
            }
        }
        return NO_SUCH;
    }

    private int fullest(int dance) {
        int most = 0;
        for (int lady = 0; lady < now.ladies.rows; lady++) {
            most = Math.max(most, Integer.bitCount(floor.companyOf(lady, dance)));
        }
        return most;
    }

    public int likes(int lady) {
        if (!now.hasLady(lady)) {
            return NO_SUCH;
        }
        int best = 0;
        int most = 0;
        for (int room = 0; room < now.rooms; room++) {
            int dances = floor.dancesIn(lady, room);
            if (dances > most) {
                most = dances;
                best = room;
            }
        }
        return best;
    }

    public int apart(int lady, int other, int dance) {
        if (!now.hasLady(lady) || !now.hasLady(other) || !now.hasDance(dance)) {
            return NO_SUCH;
        }
        return floor.distance(lady, floor.placeOf(lady, dance), floor.placeOf(other, dance));
    }

    public int alone(int dance) {
        if (!now.hasDance(dance)) {
            return NO_SUCH;
        }
        int found = 0;
        for (int lady = 0; lady < now.ladies.rows; lady++) {
            if (floor.companyOf(lady, dance) == 1 << lady) {
                found |= 1 << lady;
            }
        }
        return found;
    }

    public int empty(int dance) {
        if (!now.hasDance(dance)) {
            return NO_SUCH;
        }
        int found = 0;
        for (int room = 0; room < now.rooms; room++) {
            if (floor.ladiesIn(room, dance) == 0) {
                found |= 1 << room;
            }
        }
        return found;
    }

    public int late(int lady) {
        if (!now.hasLady(lady)) {
            return NO_SUCH;
        }
        for (int dance = now.dances; dance > 0; dance--) {
            if (floor.placeOf(lady, dance) != floor.placeOf(lady, dance - 1)) {
                return dance;
            }
        }
        return NONE;
    }

    public int waits(int lady) {
        if (!now.hasLady(lady)) {
            return NO_SUCH;
        }
        int found = 0;
        for (int dance = 0; dance < now.dances; dance++) {
            int room = floor.placeOf(lady, dance);
            int goal = floor.goalOf(lady, dance);
            if (goal != NONE && goal != room && floor.placeOf(lady, dance + 1) == room) {
                found++;
            }
        }
        return found;
    }

    public int mate(int lady) {
        if (!now.hasLady(lady)) {
            return NO_SUCH;
        }
        int best = NONE;
        int most = 0;
        for (int other = 0; other < now.ladies.rows; other++) {
            int meetings = other == lady ? 0 : floor.meetingsOf(lady, other);
            if (meetings > most) {
                most = meetings;
                best = other;
            }
        }
        return best;
    }

    // ---- who has a note when, from whom ----

    /** The notes are ready to be followed as the ball stands now. */
    private void passAsTold() {
        notes.prepare(now, now.law, NONE);
    }

    private int inTheEnd(Floor where, int first) {
        notes.follow(where, first, 0);
        return notes.behind(now.dances);
    }

    public int hears(int lady) {
        if (!now.hasLady(lady)) {
            return NO_SUCH;
        }
        passAsTold();
        int found = 0;
        for (int first = 0; first < now.ladies.rows; first++) {
            if (hasBit(inTheEnd(floor, first), lady)) {
                found |= 1 << first;
            }
        }
        return found;
    }

    public int hands(int first, int lady) {
        if (!now.hasLady(first) || !now.hasLady(lady)) {
            return NO_SUCH;
        }
        passAsTold();
        if (!hasBit(inTheEnd(floor, first), lady)) {
            return NONE;
        }
        int holder = lady;
        int hands = 0;
        while (holder != first && holder != NONE && hands < MAX_LADIES) {
            holder = notes.giverOf(floor, holder);
            hands++;
        }
        return hands;
    }

    public int have(int first, int dance) {
        if (!now.hasLady(first) || !now.hasDance(dance)) {
            return NO_SUCH;
        }
        passAsTold();
        notes.follow(floor, first, 0);
        return notes.behind(dance);
    }

    public int gets(int first, int lady) {
        if (!now.hasLady(first) || !now.hasLady(lady)) {
            return NO_SUCH;
        }
        passAsTold();
        notes.follow(floor, first, 0);
        return notes.gotAt(lady);
    }

    public int from(int first, int lady) {
        if (!now.hasLady(first) || !now.hasLady(lady)) {
            return NO_SUCH;
        }
        passAsTold();
        notes.follow(floor, first, 0);
        return notes.giverOf(floor, lady);
    }

    public int all(int first) {
        if (!now.hasLady(first)) {
            return NO_SUCH;
        }
        passAsTold();
        notes.follow(floor, first, 0);
        int everybody = now.everybody();
        for (int dance = 0; dance <= now.dances; dance++) {
            if (notes.behind(dance) == everybody) {
                return dance;
            }
        }
        return NONE;
    }

    public int best() {
        if (!now.isTold()) {
            return NO_SUCH;
        }
        passAsTold();
        int best = NONE;
        int most = 0;
        for (int first = 0; first < now.ladies.rows; first++) {
            int holders = Integer.bitCount(inTheEnd(floor, first));
            if (holders > most) {
                most = holders;
                best = first;
            }
        }
        return best;
    }

    public int lasts(int first) {
        if (!now.hasLady(first)) {
            return NO_SUCH;
        }
        passAsTold();
        notes.follow(floor, first, 0);
        int last = NONE;
        for (int lady = 0; lady < now.ladies.rows; lady++) {
            if (lady != first) {
                last = Math.max(last, notes.gotAt(lady));
            }
        }
        return last;
    }

    public int needed(int first) {
        if (!now.hasLady(first)) {
            return NO_SUCH;
        }
        passAsTold();
        int holders = inTheEnd(floor, first);
        int found = 0;
        for (int lady = 0; lady < now.ladies.rows; lady++) {
            if (lady != first) {
                notes.prepare(now, now.law, lady);
                int lost = holders & ~inTheEnd(floor, first) & ~(1 << lady);
                found |= lost != 0 ? 1 << lady : 0;
            }
        }
        return found;
    }

    public int by(int first, int law) {
        if (!now.hasLady(first) || law < 0 || law > 3) {
            return NO_SUCH;
        }
        notes.prepare(now, law, NONE);
        return inTheEnd(floor, first);
    }

    // ---- a lady who would carry one ----

    public int carry(int first, int lady, int other) {
        if (!now.hasLady(first) || !now.hasLady(lady) || !now.hasLady(other) || lady == other) {
            return NO_SUCH;
        }
        notes.prepare(now, now.law, lady);
        notes.follow(floor, first, 0);
        carrier.prepare(floor, notes, lady, other);
        return carrier.soonest(floor);
    }

    public int walk(int first, int lady, int other, int dance) {
        if (!now.hasDance(dance)) {
            return NO_SUCH;
        }
        int soonest = carry(first, lady, other);
        return soonest < 0 ? soonest : carrier.roomAt(floor, soonest, dance);
    }

    // ---- doors to be widened ----

    public int widen(int first, int door) {
        if (!now.hasLady(first) || !now.doors.has(door)) {
            return NO_SUCH;
        }
        passAsTold();
        int best = 1;
        int most = 0;
        for (int wide = 1; wide <= WIDEST; wide++) {
            trial.settle(now, door, wide);
            int holders = Integer.bitCount(inTheEnd(trial, first));
            if (holders > most) {
                most = holders;
                best = wide;
            }
        }
        return best;
    }

    public int shut(int first, int door) {
        if (!now.hasLady(first) || !now.doors.has(door)) {
            return NO_SUCH;
        }
        passAsTold();
        trial.settle(now, door, 0);
        return inTheEnd(trial, first);
    }

    public int bars(int lady, int room, int other) {
        if (!now.hasLady(lady) || !now.hasRoom(room) || !now.hasRoom(other)) {
            return NO_SUCH;
        }
        for (int wide = 1; wide <= WIDEST; wide++) {
            trial.openDoors(now, EVERY_DOOR, wide);
            if (trial.distance(lady, room, other) != NONE) {
                return wide;
            }
        }
        return NONE;
    }

    // ---- who was first, by who had it ----

    public int firsts(int slot) {
        int wrong = seenFault(slot);
        return wrong != 0 ? wrong : possibleFirsts(slots[slot]);
    }

    public int ask(int slot) {
        int wrong = seenFault(slot);
        return wrong != 0 ? wrong : bestAsked(possibleFirsts(slots[slot]));
    }

    public int leaves(int slot) {
        int wrong = seenFault(slot);
        if (wrong != 0) {
            return wrong;
        }
        int firsts = possibleFirsts(slots[slot]);
        int lady = bestAsked(firsts);
        return lady == NONE ? Integer.bitCount(firsts) : leftAtWorst(firsts, lady);
    }

    private int seenFault(int slot) {
        if (!isSlot(slot) || !now.isTold()) {
            return NO_SUCH;
        }
        Slot seen = slots[slot];
        if (seen.isBare()) {
            return NOTHING;
        }
        if (seen.size % 3 != 0) {
            return NO_SUCH;
        }
        for (int i = 0; i + 2 < seen.size; i += 3) {
            if (!isSighting(seen.cell(i), seen.cell(i + 1), seen.cell(i + 2))) {
                return NO_SUCH;
            }
        }
        return 0;
    }

    private boolean isSighting(long lady, long dance, long had) {
        return lady >= 0 && lady < now.ladies.rows && dance >= 0 && dance <= now.dances
            && (had == 0 || had == 1);
    }

    private int possibleFirsts(Slot seen) {
        passAsTold();
        int found = 0;
        for (int first = 0; first < now.ladies.rows; first++) {
            notes.follow(floor, first, 0);
            if (agrees(seen)) {
                found |= 1 << first;
            }
        }
        return found;
    }

    private boolean agrees(Slot seen) {
        for (int i = 0; i + 2 < seen.size; i += 3) {
            int holders = notes.behind((int) seen.cell(i + 1));
            if (hasBit(holders, (int) seen.cell(i)) != (seen.cell(i + 2) == 1)) {
                return false;
            }
        }
        return true;
    }

    private int bestAsked(int firsts) {
        int best = NONE;
        int fewest = Integer.bitCount(firsts);
        for (int lady = 0; lady < now.ladies.rows; lady++) {
            int left = leftAtWorst(firsts, lady);
            if (left < fewest) {
                fewest = left;
                best = lady;
            }
        }
        return best;
    }

    private int leftAtWorst(int firsts, int lady) {
        Arrays.fill(answers, 0);
        int worst = 0;
        for (int first = 0; first < now.ladies.rows; first++) {
            if (hasBit(firsts, first)) {
                notes.follow(floor, first, 0);
                int answer = notes.gotAt(lady) + 1;
                answers[answer]++;
                worst = Math.max(worst, answers[answer]);
            }
        }
        return worst;
    }

    // ---- who holds the house ----

    public int seats(int lady) {
        return now.hasLady(lady) ? now.seatsUnder(lady) : NO_SUCH;
    }

    public int under(int lady) {
        return now.hasLady(lady) ? now.ministersUnder(lady) : NO_SUCH;
    }

    public int holds(int set) {
        if (!now.hasSet(set)) {
            return NO_SUCH;
        }
        house.tally(now);
        return house.isMajority(set) ? 1 : 0;
    }

    public int blocks(int set) {
        if (!now.hasSet(set)) {
            return NO_SUCH;
        }
        house.tally(now);
        return house.isMajority(now.everybody() & ~set) ? 0 : 1;
    }

    public int power(int lady) {
        if (!now.hasLady(lady)) {
            return NO_SUCH;
        }
        house.tally(now);
        return house.powerOf(lady);
    }

    public int dummies() {
        if (!now.isTold()) {
            return NO_SUCH;
        }
        house.tally(now);
        int found = 0;
        for (int lady = 0; lady < now.ladies.rows; lady++) {
            if (house.powerOf(lady) == 0) {
                found |= 1 << lady;
            }
        }
        return found;
    }

    public int strongest() {
        if (!now.isTold()) {
            return NO_SUCH;
        }
        house.tally(now);
        int best = NONE;
        int most = 0;
        for (int lady = 0; lady < now.ladies.rows; lady++) {
            int power = house.powerOf(lady);
            if (power > most) {
                most = power;
                best = lady;
            }
        }
        return best;
    }

    public int part(int lady, int what) {
        if (!now.hasLady(lady) || !isPart(what)) {
            return NO_SUCH;
        }
        if (now.ministers.rows == 0) {
            return NONE;
        }
        house.tally(now);
        return (int) lowestTerms(house.seatsOf(1 << lady), house.total, what);
    }

    public int cabinet() {
        if (!now.isTold()) {
            return NO_SUCH;
        }
        house.tally(now);
        int best = NONE;
        int fewest = MAX_LADIES + 1;
        for (int set = 0; set <= now.everybody(); set++) {
            if (house.isMajority(set) && Integer.bitCount(set) < fewest) {
                fewest = Integer.bitCount(set);
                best = set;
            }
        }
        return best;
    }

    public int cabinets() {
        if (!now.isTold()) {
            return NO_SUCH;
        }
        house.tally(now);
        int found = 0;
        for (int set = 0; set <= now.everybody(); set++) {
            if (house.isLeastMajority(set)) {
                found++;
            }
        }
        return found;
    }

    public int kingmaker() {
        if (!now.isTold()) {
            return NO_SUCH;
        }
        house.tally(now);
        for (int minister = 0; minister < now.ministers.rows; minister++) {
            if (makesOneHold(minister)) {
                return minister;
            }
        }
        return NONE;
    }

    private boolean makesOneHold(int minister) {
        int brought = now.ministers.cell(minister, Ball.SEATS);
        for (int lady = 0; lady < now.ladies.rows; lady++) {
            if (lady != now.ministers.cell(minister, Ball.OVER)
                && house.isMoreThanHalf(house.seatsOf(1 << lady) + brought)) {
                return true;
            }
        }
        return false;
    }

    // ---- two who stay or go ----

    public int rests(int lady, int other) {
        if (!now.hasLady(lady) || !now.hasLady(other) || lady == other) {
            return NO_SUCH;
        }
        int found = 0;
        for (int pair = 0; pair < 4; pair++) {
            int x = pair & 1;
            int y = pair >> 1;
            if (isContent(lady, other, x, y) && isContent(other, lady, y, x)) {
                found |= 1 << pair;
            }
        }
        return found;
    }

    public int gains(int lady, int other, int x, int y) {
        if (!now.hasLady(lady) || !now.hasLady(other) || lady == other || !isPart(x) || !isPart(y)) {
            return NO_GAIN;
        }
        return gainOf(lady, other, x, y);
    }

    private boolean isContent(int lady, int other, int x, int y) {
        return gainOf(lady, other, x, y) >= gainOf(lady, other, 1 - x, y);
    }

    private int gainOf(int lady, int other, int x, int y) {
        trial.copyFrom(floor);
        if (x == 1) {
            trial.keepStill(lady);
        }
        if (y == 1) {
            trial.keepStill(other);
        }
        trial.gather();
        return 2 * Integer.bitCount(trial.friendsOf(lady)) - trial.stepsOf(lady);
    }

    // ---- music too loud by chance ----

    public long chance(int first, int lady, int dance, int what) {
        if (!now.hasLady(first) || !now.hasLady(lady) || !isChanceDance(dance) || !isPart(what)) {
            return NO_SUCH;
        }
        passAsTold();
        music.play(floor, notes, first, dance, now.odds);
        return lowestTerms(music.weightWith(lady), music.total, what);
    }

    public long mean(int first, int dance, int what) {
        if (!now.hasLady(first) || !isChanceDance(dance) || !isPart(what)) {
            return NO_SUCH;
        }
        passAsTold();
        music.play(floor, notes, first, dance, now.odds);
        return lowestTerms(music.weightOfHolders(), music.total, what);
    }

    private boolean isChanceDance(int dance) {
        return now.hasDance(dance) && dance <= LAST_CHANCE;
    }

    public int drawn(int seed, int first, int what) {
        if (!isSeed(seed) || !now.hasLady(first) || !isPart(what)) {
            return NO_SUCH;
        }
        passAsTold();
        int loud = loudDances(seed);
        return what == 0 ? loud : drawnHolders(loud, first);
    }

    public int luck(int seed, int n, int first, int lady) {
        if (!isSeed(seed) || n < 1 || n > MOST_DRAWN || !now.hasLady(first) || !now.hasLady(lady)) {
            return NO_SUCH;
        }
        passAsTold();
        int found = 0;
        for (int i = 0; i < n; i++) {
            if (hasBit(drawnHolders(loudDances(seed + i), first), lady)) {
                found++;
            }
        }
        return found;
    }

    private int drawnHolders(int loud, int first) {
        notes.follow(floor, first, loud);
        return notes.behind(now.dances);
    }

    private int loudDances(int seed) {
        long x = seed;
        int loud = 0;
        for (int dance = 0; dance <= now.dances; dance++) {
            x = (1103515245L * x + 12345L) % 2147483648L;
            if (x / 65536 % 10 < now.odds) {
                loud |= 1 << dance;
            }
        }
        return loud;
    }

    // ---- acts ----

    public int bid(int lady, int room, int dance) {
        if (!now.hasLady(lady) || !now.hasRoom(room) || dance < 0 || dance > LAST_BID) {
            return NO_SUCH;
        }
        if (now.acts.isFull()) {
            return REFUSED;
        }
        now.actBid(lady, room, dance);
        settle();
        return floor.placeOf(lady, now.dances);
    }

    public int move(int minister, int lady) {
        if (!now.ministers.has(minister) || !now.hasLady(lady)) {
            return NO_SUCH;
        }
        if (now.acts.isFull()) {
            return REFUSED;
        }
        int was = now.ministers.cell(minister, Ball.OVER);
        now.actMove(minister, lady);
        return was;
    }

    public int undo() {
        if (!now.isTold()) {
            return NO_SUCH;
        }
        if (now.acts.rows == 0) {
            return REFUSED;
        }
        now.takeBack();
        settle();
        return now.acts.rows;
    }

    public int anew() {
        if (!now.isTold()) {
            return NO_SUCH;
        }
        int acts = now.acts.rows;
        for (int i = 0; i < acts; i++) {
            now.takeBack();
        }
        settle();
        return acts;
    }

    public int hang(int door, int n) {
        if (!now.doors.has(door) || n < 1 || n > WIDEST) {
            return NO_SUCH;
        }
        if (now.acts.rows > 0) {
            return REFUSED;
        }
        int was = now.doors.cell(door, Ball.WIDE);
        now.doors.put(door, Ball.WIDE, n);
        settle();
        return was;
    }

    public int count(int what) {
        switch (what) {
            case 0: return now.rooms;
            case 1: return now.dances;
            case 2: return now.law;
            case 3: return now.odds;
            case 4: return now.doors.rows;
            case 5: return now.ladies.rows;
            case 6: return now.ministers.rows;
            case 7: return now.bids.rows;
            case 8: return now.acts.rows;
            case 9: return now.lines;
            case 10: return tapeLength;
            case 11: return slotsWithRow();
            default: return NONE;
        }
    }

    private int slotsWithRow() {
        int found = 0;
        for (int k = 0; k < SLOTS; k++) {
            if (!slots[k].isBare()) {
                found++;
            }
        }
        return found;
    }

    // ---- images ----

    public int image(int k) {
        if (k < 0 || k >= IMAGES) {
            return NO_SUCH;
        }
        images[k].copyFrom(now);
        kept[k] = true;
        return 0;
    }

    public int back(int k) {
        if (k < 0 || k >= IMAGES) {
            return NO_SUCH;
        }
        if (!kept[k]) {
            return NOTHING;
        }
        now.copyFrom(images[k]);
        settle();
        return 0;
    }

    // ---- slots ----

    public int row(int slot, int width, int n) {
        if (!isSlot(slot) || width < 0 || width > 3 || n > Slot.LIMIT) {
            return NO_SUCH;
        }
        if (n < 0) {
            return NEGATIVE_SIZE;
        }
        slots[slot].start(width, n);
        return 0;
    }

    public int write(int slot, int i, long v) {
        if (!isSlot(slot)) {
            return NO_SUCH;
        }
        if (slots[slot].isBare()) {
            return NOTHING;
        }
        if (i < 0 || i >= slots[slot].size) {
            return BEYOND;
        }
        slots[slot].put(i, v);
        return 0;
    }

    public int paste(int slot, int i, int to, int k, int n) {
        if (!isSlot(slot) || !isSlot(to)) {
            return NO_SUCH;
        }
        Slot source = slots[slot];
        Slot target = slots[to];
        if (source.isBare() || target.isBare()) {
            return NOTHING;
        }
        if (source.width != target.width) {
            return UNLIKE;
        }
        if (!source.hasStretch(i, n) || !target.hasStretch(k, n)) {
            return BEYOND;
        }
        System.arraycopy(source.cells, i, target.cells, k, n);
        return 0;
    }

    // ---- small questions ----

    private static boolean isSlot(int slot) {
        return slot >= 0 && slot < SLOTS;
    }

    private static boolean isSeed(int seed) {
        return seed >= 0 && seed <= LAST_SEED;
    }

    /** 0 or 1: above or below of a fraction, as now or stays. */
    private static boolean isPart(int what) {
        return what == 0 || what == 1;
    }

    private static boolean hasBit(int bits, int i) {
        return i >= 0 && i < 32 && (bits >>> i & 1) != 0;
    }

    /** The place of the lowest bit; NONE without any. */
    private static int lowest(int bits) {
        for (int i = 0; i < 32; i++) {
            if (hasBit(bits, i)) {
                return i;
            }
        }
        return NONE;
    }

    private static long lowestTerms(long above, long below, int what) {
        long divisor = above;
        long rest = below;
        for (int i = 0; i < 200 && rest != 0; i++) {
            long next = divisor % rest;
            divisor = rest;
            rest = next;
        }
        long told = what == 0 ? above : below;
        return divisor == 0 ? told : told / divisor;
    }

    /** Rows of a few numbers each, up to a limit. */
    private static final class Table {
        private final int[] cells;
        private final int limit;
        private final int width;
        private int rows;

        Table(int limit, int width) {
            this.limit = Math.max(0, limit);
            this.width = Math.max(0, width);
            cells = new int[this.limit * this.width];
            rows = 0;
        }

        boolean has(int row) {
            return row >= 0 && row < rows;
        }

        boolean hasCell(int row, int column) {
            return row >= 0 && row < rows && column >= 0 && column < width;
        }

        boolean isFull() {
            return rows >= limit;
        }

        int cell(int row, int column) {
            return hasCell(row, column) ? cells[row * width + column] : NONE;
        }

        void put(int row, int column, int value) {
            if (hasCell(row, column)) {
                cells[row * width + column] = value;
            }
        }

        /** Numbers beyond the width are left out. */
        void add(int a, int b, int c, int d) {
            if (isFull()) {
                return;
            }
            rows++;
            put(rows - 1, 0, a);
            put(rows - 1, 1, b);
            put(rows - 1, 2, c);
            put(rows - 1, 3, d);
        }

        void dropLast() {
            rows = Math.max(0, rows - 1);
        }

        void clear() {
            rows = 0;
        }

        /** Both are of one limit and width: the tables of two balls. */
        void copyFrom(Table other) {
            System.arraycopy(other.cells, 0, cells, 0, Math.min(cells.length, other.cells.length));
            rows = other.rows;
        }
    }

    /** A ball as told, and the acts since; without lines there is none. */
    private static final class Ball {
        static final int WIDE = 2;
        static final int OVER = 0;
        static final int SEATS = 1;
        static final int BIDDING = 0;
        static final int MOVING = 1;

        private int lines;
        private int rooms;
        private int dances;
        private int law;
        private int odds;
        /** Room, room, wide. */
        private final Table doors = new Table(12, 3);
        /** Room, wide. */
        private final Table ladies = new Table(MAX_LADIES, 2);
        /** The lady over him now, seats. */
        private final Table ministers = new Table(8, 2);
        /** Lady, room, dance. */
        private final Table bids = new Table(10, 3);
        /** BIDDING, lady, room, dance; or MOVING, minister, lady, the lady who was over him. */
        private final Table acts = new Table(30, 4);

        void clear() {
            lines = 0;
            rooms = 0;
            dances = 0;
            law = 0;
            odds = 0;
            doors.clear();
            ladies.clear();
            ministers.clear();
            bids.clear();
            acts.clear();
        }

        void copyFrom(Ball other) {
            lines = other.lines;
            rooms = other.rooms;
            dances = other.dances;
            law = other.law;
            odds = other.odds;
            doors.copyFrom(other.doors);
            ladies.copyFrom(other.ladies);
            ministers.copyFrom(other.ministers);
            bids.copyFrom(other.bids);
            acts.copyFrom(other.acts);
        }

        boolean isTold() {
            return lines > 0;
        }

        boolean hasLady(int lady) {
            return ladies.has(lady);
        }

        boolean hasRoom(int room) {
            return room >= 0 && room < rooms;
        }

        boolean hasDance(int dance) {
            return isTold() && dance >= 0 && dance <= dances;
        }

        boolean hasSet(int set) {
            return isTold() && set >= 0 && set <= everybody();
        }

        int everybody() {
            return (1 << ladies.rows) - 1;
        }

        int ministersUnder(int lady) {
            int found = 0;
            for (int i = 0; i < ministers.rows; i++) {
                if (ministers.cell(i, OVER) == lady) {
                    found |= 1 << i;
                }
            }
            return found;
        }

        int seatsUnder(int lady) {
            int found = 0;
            for (int i = 0; i < ministers.rows; i++) {
                if (ministers.cell(i, OVER) == lady) {
                    found += ministers.cell(i, SEATS);
                }
            }
            return found;
        }

        void actBid(int lady, int room, int dance) {
            acts.add(BIDDING, lady, room, dance);
        }

        void actMove(int minister, int lady) {
            acts.add(MOVING, minister, lady, ministers.cell(minister, OVER));
            ministers.put(minister, OVER, lady);
        }

        void takeBack() {
            int last = acts.rows - 1;
            if (acts.cell(last, 0) == MOVING) {
                ministers.put(acts.cell(last, 1), OVER, acts.cell(last, 3));
            }
            acts.dropLast();
        }
    }

    /** Reads a text into a ball, token by token, up to its first fault. */
    private static final class Reader {
        private static final int END = 0;
        private static final int WORD = 1;
        private static final int NUMBER = 2;
        private static final int SIGN = 3;
        private static final int ODD = 4;
        private static final int MISPLACED = 1;
        private static final int OUT_OF_BOUNDS = 2;
        private static final int TOO_MANY = 3;
        /** Above every bound of the text, so that a longer number needs no more. */
        private static final int HUGE = 1000000;

        private final byte[] tape;
        private final Ball ball;
        private int length;
        private int kind;
        private int place;
        private int stop;
        private int fault;
        private int faultPlace;

        Reader(byte[] text, Ball draft) {
            tape = text;
            ball = draft;
            faultPlace = NONE;
        }

        /** So many bytes of the tape are the text; with a fault the draft is of no use. */
        void read(int size) {
            length = Math.max(0, Math.min(size, tape.length));
            ball.clear();
            fault = 0;
            faultPlace = NONE;
            stop = 0;
            nextToken();
            for (int i = 0; i < length && fault == 0 && kind != END; i++) {
                readLine();
            }
        }

        private void readLine() {
            if (ball.lines == 0) {
                readBall();
            } else if (isWord("door")) {
                readDoor();
            } else if (isWord("lady")) {
                readLady();
            } else if (isWord("minister")) {
                readMinister();
            } else if (isWord("bid")) {
                readBid();
            } else {
                fail(MISPLACED);
            }
            ball.lines++;
        }

        private void readBall() {
            takeWord("ball");
            takeWord("rooms");
            ball.rooms = takeNumber(1, MAX_ROOMS);
            takeWord("dances");
            ball.dances = takeNumber(1, MAX_ROUNDS - 1);
            takeWord("law");
            ball.law = takeNumber(0, 3);
            takeWord("odds");
            ball.odds = takeNumber(0, 10);
            takeSign();
        }

        private void readDoor() {
            startRow(ball.doors);
            int room = takeNumber(0, ball.rooms - 1);
            takeWord("to");
            if (kind == NUMBER && digits() == room) {
                fail(OUT_OF_BOUNDS);
            }
            int other = takeNumber(0, ball.rooms - 1);
            takeWord("wide");
            int wide = takeNumber(1, WIDEST);
            takeSign();
            if (fault == 0) {
                ball.doors.add(room, other, wide, 0);
            }
        }

        private void readLady() {
            startRow(ball.ladies);
            takeWord("in");
            int room = takeNumber(0, ball.rooms - 1);
            takeWord("wide");
            int wide = takeNumber(1, WIDEST);
            takeSign();
            if (fault == 0) {
                ball.ladies.add(room, wide, 0, 0);
            }
        }

        private void readMinister() {
            startRow(ball.ministers);
            takeWord("under");
            int lady = takeNumber(0, ball.ladies.rows - 1);
            takeWord("seats");
            int seats = takeNumber(1, 20);
            takeSign();
            if (fault == 0) {
                ball.ministers.add(lady, seats, 0, 0);
            }
        }

        private void readBid() {
            startRow(ball.bids);
            int lady = takeNumber(0, ball.ladies.rows - 1);
            takeWord("to");
            int room = takeNumber(0, ball.rooms - 1);
            takeWord("at");
            int dance = takeNumber(0, LAST_BID);
            takeSign();
            if (fault == 0) {
                ball.bids.add(lady, room, dance, 0);
            }
        }

        /** The line's own word has been looked at already. */
        private void startRow(Table table) {
            if (table.isFull()) {
                fail(TOO_MANY);
            }
            nextToken();
        }

        /** The first fault stays: what stands behind it is not judged. */
        private void fail(int what) {
            if (fault == 0) {
                fault = what;
                faultPlace = place;
            }
        }

        private void takeWord(String word) {
            if (!isWord(word)) {
                fail(MISPLACED);
            }
            nextToken();
        }

        private void takeSign() {
            if (kind != SIGN) {
                fail(MISPLACED);
            }
            nextToken();
        }

        private int takeNumber(int least, int most) {
            int number = digits();
            if (kind != NUMBER) {
                fail(MISPLACED);
            } else if (number < least || number > most) {
                fail(OUT_OF_BOUNDS);
            }
            nextToken();
            return number;
        }

        private boolean isWord(String word) {
            if (kind != WORD || stop - place != word.length()) {
                return false;
            }
            for (int i = 0; i < word.length(); i++) {
                if (byteAt(place + i) != word.charAt(i)) {
                    return false;
                }
            }
            return true;
        }

        private void nextToken() {
            int i = stop;
            while (i < length && isBlank(byteAt(i))) {
                i++;
            }
            place = i;
            kind = kindOf(byteAt(i));
            if (kind == END) {
                stop = i;
                return;
            }
            i++;
            while (i < length && (kind == WORD || kind == NUMBER) && kindOf(byteAt(i)) == kind) {
                i++;
            }
            stop = i;
        }

        /** What the token is worth, if it is a number. */
        private int digits() {
            int number = 0;
            for (int i = place; i < stop; i++) {
                number = Math.min(HUGE, number * 10 + byteAt(i) - '0');
            }
            return number;
        }

        /** NONE behind the end. */
        private int byteAt(int i) {
            return i >= 0 && i < length && i < tape.length ? tape[i] & 255 : NONE;
        }

        private static boolean isBlank(int sign) {
            return sign == 32 || sign == 10;
        }

        private static int kindOf(int sign) {
            if (sign == NONE) {
                return END;
            }
            if (sign >= 'a' && sign <= 'z') {
                return WORD;
            }
            if (sign >= '0' && sign <= '9') {
                return NUMBER;
            }
            return sign == ';' ? SIGN : ODD;
        }
    }

    /** Which rooms are a step away for each lady, and where each one is at each dance. */
    private static final class Floor {
        /** By lady and room: the rooms that she can be in a dance later, as bits. */
        private final int[] near = new int[MAX_LADIES * MAX_ROOMS];
        /** By lady and dance: the room to which she is bidden, and by a bid of which dance. */
        private final int[] goals = new int[MAX_LADIES * MAX_ROUNDS];
        private final int[] since = new int[MAX_LADIES * MAX_ROUNDS];
        /** By lady and dance: her room. */
        private final int[] places = new int[MAX_LADIES * MAX_ROUNDS];
        /** By lady and dance: all who are in her room, she too, as bits. */
        private final int[] company = new int[MAX_LADIES * MAX_ROUNDS];
        private int ladies;
        private int rooms;
        private int dances;

        /** The ball as it stands, but for one door that is so wide; 0 shuts it. */
        void settle(Ball ball, int door, int wide) {
            openDoors(ball, door, wide);
            hearBids(ball);
            for (int lady = 0; lady < ladies; lady++) {
                goAsBidden(lady, ball.ladies.cell(lady, 0));
            }
            gather();
        }

        void openDoors(Ball ball, int door, int wide) {
            ladies = ball.ladies.rows;
            rooms = ball.rooms;
            dances = ball.dances;
            for (int lady = 0; lady < ladies; lady++) {
                for (int room = 0; room < rooms; room++) {
                    near[lady * MAX_ROOMS + room] = 1 << room;
                }
            }
            for (int i = 0; i < ball.doors.rows; i++) {
                boolean changed = i == door || door == EVERY_DOOR;
                openDoor(ball, i, changed ? wide : ball.doors.cell(i, Ball.WIDE));
            }
        }

        private void openDoor(Ball ball, int door, int wide) {
            int room = ball.doors.cell(door, 0);
            int other = ball.doors.cell(door, 1);
            if (!ball.hasRoom(room) || !ball.hasRoom(other)) {
                return;
            }
            for (int lady = 0; lady < ladies; lady++) {
                if (ball.ladies.cell(lady, 1) <= wide) {
                    near[lady * MAX_ROOMS + room] |= 1 << other;
                    near[lady * MAX_ROOMS + other] |= 1 << room;
                }
            }
        }

        private void hearBids(Ball ball) {
            Arrays.fill(goals, NONE);
            Arrays.fill(since, NONE);
            for (int i = 0; i < ball.bids.rows; i++) {
                hearBid(ball.bids.cell(i, 0), ball.bids.cell(i, 1), ball.bids.cell(i, 2));
            }
            for (int i = 0; i < ball.acts.rows; i++) {
                if (ball.acts.cell(i, 0) == Ball.BIDDING) {
                    hearBid(ball.acts.cell(i, 1), ball.acts.cell(i, 2), ball.acts.cell(i, 3));
                }
            }
        }

        /** Of bids for the same dance the one heard last stands. */
        private void hearBid(int lady, int room, int when) {
            if (lady < 0 || lady >= ladies || when < 0) {
                return;
            }
            for (int dance = when; dance <= dances; dance++) {
                if (since[lady * MAX_ROUNDS + dance] <= when) {
                    since[lady * MAX_ROUNDS + dance] = when;
                    goals[lady * MAX_ROUNDS + dance] = room;
                }
            }
        }

        private void goAsBidden(int lady, int told) {
            int room = told;
            places[lady * MAX_ROUNDS] = room;
            for (int dance = 0; dance < dances; dance++) {
                room = nextRoom(lady, room, goalOf(lady, dance));
                places[lady * MAX_ROUNDS + dance + 1] = room;
            }
        }

        /** The goal's surroundings grow until a step leads into them: that step is on a shortest way. */
        private int nextRoom(int lady, int room, int goal) {
            if (goal == NONE || goal == room) {
                return room;
            }
            int around = 1 << goal;
            for (int n = 0; n < rooms; n++) {
                int closer = stepsFrom(lady, room) & around;
                if (closer != 0) {
                    return lowest(closer);
                }
                around = spread(lady, around);
            }
            return room;
        }

        /** Who meets whom, by the places as they are now. */
        void gather() {
            for (int lady = 0; lady < ladies; lady++) {
                for (int dance = 0; dance <= dances; dance++) {
                    company[lady * MAX_ROUNDS + dance] = ladiesIn(placeOf(lady, dance), dance);
                }
            }
        }

        void keepStill(int lady) {
            int room = placeOf(lady, 0);
            for (int dance = 1; dance <= dances; dance++) {
                places[lady * MAX_ROUNDS + dance] = room;
            }
        }

        void copyFrom(Floor other) {
            System.arraycopy(other.near, 0, near, 0, near.length);
            System.arraycopy(other.places, 0, places, 0, places.length);
            System.arraycopy(other.company, 0, company, 0, company.length);
            ladies = other.ladies;
            rooms = other.rooms;
            dances = other.dances;
        }

        int stepsFrom(int lady, int room) {
            if (lady < 0 || lady >= ladies || room < 0 || room >= rooms) {
                return 0;
            }
            return near[lady * MAX_ROOMS + room];
        }

        /** The rooms that are at most a step away from some. */
        int spread(int lady, int some) {
            int found = 0;
            for (int room = 0; room < rooms; room++) {
                if (hasBit(some, room)) {
                    found |= stepsFrom(lady, room);
                }
            }
            return found;
        }

        int distance(int lady, int room, int other) {
            int found = 1 << room;
            for (int n = 0; n < rooms; n++) {
                if (hasBit(found, other)) {
                    return n;
                }
                found = spread(lady, found);
            }
            return NONE;
        }

        int reachable(int lady, int room) {
            int found = 1 << room;
            for (int n = 1; n < rooms; n++) {
                found = spread(lady, found);
            }
            return found;
        }

        private boolean isHere(int lady, int dance) {
            return lady >= 0 && lady < ladies && dance >= 0 && dance <= dances;
        }

        int goalOf(int lady, int dance) {
            return isHere(lady, dance) ? goals[lady * MAX_ROUNDS + dance] : NONE;
        }

        int placeOf(int lady, int dance) {
            return isHere(lady, dance) ? places[lady * MAX_ROUNDS + dance] : NONE;
        }

        int companyOf(int lady, int dance) {
            return isHere(lady, dance) ? company[lady * MAX_ROUNDS + dance] : 0;
        }

        int ladiesIn(int room, int dance) {
            int found = 0;
            for (int lady = 0; lady < ladies; lady++) {
                if (placeOf(lady, dance) == room) {
                    found |= 1 << lady;
                }
            }
            return found;
        }

        int dancesIn(int lady, int room) {
            int found = 0;
            for (int dance = 0; dance <= dances; dance++) {
                if (placeOf(lady, dance) == room) {
                    found++;
                }
            }
            return found;
        }

        int stepsOf(int lady) {
            int found = 0;
            for (int dance = 1; dance <= dances; dance++) {
                if (placeOf(lady, dance) != placeOf(lady, dance - 1)) {
                    found++;
                }
            }
            return found;
        }

        int meetingsOf(int lady, int other) {
            int found = 0;
            for (int dance = 0; dance <= dances; dance++) {
                if (hasBit(companyOf(lady, dance), other)) {
                    found++;
                }
            }
            return found;
        }

        int friendsOf(int lady) {
            int found = 0;
            for (int dance = 0; dance <= dances; dance++) {
                found |= companyOf(lady, dance);
            }
            return found & ~(1 << lady);
        }
    }

    /** How a note passes from lady to lady. */
    private static final class Notes {
        /** By lady: those to whom the law lets her give it, as bits. */
        private final int[] allowed = new int[MAX_LADIES];
        private final int[] seatsUnder = new int[MAX_LADIES];
        /** By dance: those who have the note behind it, as bits. */
        private final int[] holders = new int[MAX_ROUNDS];
        private int ladies;
        private int dances;
        private int first;

        /** One lady may be left out: she gives and takes nothing. */
        void prepare(Ball ball, int law, int absent) {
            ladies = ball.ladies.rows;
            dances = ball.dances;
            for (int lady = 0; lady < ladies; lady++) {
                seatsUnder[lady] = ball.seatsUnder(lady);
            }
            for (int lady = 0; lady < ladies; lady++) {
                allowed[lady] = 0;
                for (int other = 0; other < ladies; other++) {
                    if (lady != absent && other != absent && mayGive(ball, law, lady, other)) {
                        allowed[lady] |= 1 << other;
                    }
                }
            }
        }

        private boolean mayGive(Ball ball, int law, int lady, int other) {
            switch (law) {
                case 0: return true;
                // every minister has a seat or more
                case 1: return seatsUnder[other] > 0;
                case 2: return ball.ladies.cell(other, 1) <= ball.ladies.cell(lady, 1);
                default: return seatsUnder[other] < seatsUnder[lady];
            }
        }

        /** Who have the note behind a dance, if some have it ahead of it and no music is too loud. */
        int passed(Floor floor, int dance, int some) {
            int found = some;
            for (int lady = 0; lady < ladies; lady++) {
                if (hasBit(some, lady)) {
                    found |= allowed[lady] & floor.companyOf(lady, dance);
                }
            }
            return found;
        }

        /** The note goes its way from its first lady; at loud dances (bits) it is not given. */
        void follow(Floor floor, int firstLady, int loud) {
            first = firstLady;
            int some = 1 << firstLady;
            for (int dance = 0; dance <= dances; dance++) {
                if (!hasBit(loud, dance)) {
                    some = passed(floor, dance, some);
                }
                holders[dance] = some;
            }
        }

        int behind(int dance) {
            return dance >= 0 && dance <= dances ? holders[dance] : 0;
        }

        /** Who can give the note at a dance. */
        int ahead(int dance) {
            return dance == 0 ? 1 << first : behind(dance - 1);
        }

        int gotAt(int lady) {
            for (int dance = 0; dance <= dances; dance++) {
                if (hasBit(holders[dance], lady)) {
                    return dance;
                }
            }
            return NONE;
        }

        int giverOf(Floor floor, int lady) {
            int dance = gotAt(lady);
            if (lady == first || dance == NONE) {
                return NONE;
            }
            for (int giver = 0; giver < ladies; giver++) {
                if (hasBit(ahead(dance), giver)
                    && hasBit(allowed[giver] & floor.companyOf(giver, dance), lady)) {
                    return giver;
                }
            }
            return NONE;
        }
    }

    /** A lady who goes as she likes, takes a note, and gives it to another one. */
    private static final class Carrier {
        /** By dance: the rooms in which she would take the note, as bits. */
        private final int[] taking = new int[MAX_ROUNDS];
        /** By dance: the rooms from which she still comes in time, if she has it by then. */
        private final int[] holding = new int[MAX_ROUNDS];
        /** The same, if she has it not yet. */
        private final int[] bare = new int[MAX_ROUNDS];
        private int lady;
        private int other;
        private int dances;
        private boolean startsWithIt;
        private boolean givesAtOnce;

        /** The notes have been followed without her. */
        void prepare(Floor floor, Notes notes, int carrying, int receiving) {
            lady = carrying;
            other = receiving;
            dances = notes.dances;
            for (int dance = 0; dance <= dances; dance++) {
                taking[dance] = roomsOf(floor, notes.ahead(dance) & ~(1 << lady), dance);
            }
            startsWithIt = notes.first == lady || hasBit(taking[0], floor.placeOf(lady, 0));
            // only the first lady can give it at once: who takes it gives it at a later dance
            givesAtOnce = notes.first == lady && floor.placeOf(lady, 0) == floor.placeOf(other, 0);
        }

        private static int roomsOf(Floor floor, int ladies, int dance) {
            int found = 0;
            for (int one = 0; one < MAX_LADIES; one++) {
                if (hasBit(ladies, one)) {
                    found |= 1 << floor.placeOf(one, dance);
                }
            }
            return found;
        }

        int soonest(Floor floor) {
            if (givesAtOnce) {
                return 0;
            }
            int start = floor.placeOf(lady, 0);
            for (int dance = 1; dance <= dances; dance++) {
                lookBack(floor, dance);
                if (hasBit(startsWithIt ? holding[0] : bare[0], start)) {
                    return dance;
                }
            }
            return NONE;
        }

        /** From where, at each dance ahead, she can still give it at the last one. */
        private void lookBack(Floor floor, int last) {
            holding[last] = 1 << floor.placeOf(other, last);
            bare[last] = 0;
            for (int dance = last - 1; dance >= 0; dance--) {
                holding[dance] = floor.spread(lady, holding[dance + 1]);
                bare[dance] = floor.spread(lady, goodWithout(dance + 1, last));
            }
        }

        /** Rooms to be in at a dance, coming without the note; what is taken at the last dance comes too late. */
        private int goodWithout(int dance, int last) {
            int takes = dance == last ? 0 : taking[dance];
            return takes & holding[dance] | ~takes & bare[dance];
        }

        /** Her room by the least row of rooms; to be asked behind soonest, which looked back from that dance. */
        int roomAt(Floor floor, int last, int dance) {
            int room = floor.placeOf(lady, 0);
            boolean hasIt = startsWithIt;
            for (int n = 1; n <= dance && n <= last; n++) {
                int good = hasIt ? holding[n] : goodWithout(n, last);
                int next = lowest(floor.stepsFrom(lady, room) & good);
                room = next == NONE ? room : next;
                hasIt = hasIt || hasBit(taking[n], room);
            }
            return room;
        }
    }

    /** The seats of the house by ladies, and which sets of ladies have a majority. */
    private static final class House {
        private final int[] seatsUnder = new int[MAX_LADIES];
        private int ladies;
        private int total;

        void tally(Ball ball) {
            ladies = ball.ladies.rows;
            total = 0;
            for (int lady = 0; lady < ladies; lady++) {
                seatsUnder[lady] = ball.seatsUnder(lady);
                total += seatsUnder[lady];
            }
        }

        int seatsOf(int set) {
            int found = 0;
            for (int lady = 0; lady < ladies; lady++) {
                if (hasBit(set, lady)) {
                    found += seatsUnder[lady];
                }
            }
            return found;
        }

        boolean isMoreThanHalf(int seats) {
            return 2 * seats > total;
        }

        boolean isMajority(int set) {
            return isMoreThanHalf(seatsOf(set));
        }

        boolean isLeastMajority(int set) {
            if (!isMajority(set)) {
                return false;
            }
            for (int lady = 0; lady < ladies; lady++) {
                if (hasBit(set, lady) && isMajority(set & ~(1 << lady))) {
                    return false;
                }
            }
            return true;
        }

        int powerOf(int lady) {
            int found = 0;
            for (int set = 0; set < 1 << ladies; set++) {
                if (hasBit(set, lady) && isMajority(set) && !isMajority(set & ~(1 << lady))) {
                    found++;
                }
            }
            return found;
        }
    }

    /** The sets of ladies who may have a note, each with its weight, dance by dance. */
    private static final class Music {
        private long[] weights = new long[SETS];
        private long[] later = new long[SETS];
        private long total;

        void play(Floor floor, Notes notes, int first, int dance, int odds) {
            Arrays.fill(weights, 0);
            weights[1 << first & SETS - 1] = 1;
            total = 1;
            for (int n = 0; n <= dance && n <= LAST_CHANCE; n++) {
                playOne(floor, notes, n, odds);
                total *= 10;
            }
        }

        private void playOne(Floor floor, Notes notes, int dance, int odds) {
            Arrays.fill(later, 0);
            for (int set = 0; set < SETS; set++) {
                if (weights[set] != 0) {
                    later[set] += weights[set] * odds;
                    later[notes.passed(floor, dance, set) & SETS - 1] += weights[set] * (10 - odds);
                }
            }
            long[] spare = weights;
            weights = later;
            later = spare;
        }

        long weightWith(int lady) {
            long found = 0;
            for (int set = 0; set < SETS; set++) {
                if (hasBit(set, lady)) {
                    found += weights[set];
                }
            }
            return found;
        }

        long weightOfHolders() {
            long found = 0;
            for (int set = 0; set < SETS; set++) {
                found += weights[set] * Integer.bitCount(set);
            }
            return found;
        }
    }

    /** A row of numbers of one width, or nothing. */
    private static final class Slot {
        static final int LIMIT = 60;

        private final long[] cells = new long[LIMIT];
        private int width;
        private int size = NONE;

        boolean isBare() {
            return size < 0;
        }

        void start(int newWidth, int newSize) {
            width = newWidth;
            size = Math.min(LIMIT, newSize);
            Arrays.fill(cells, 0);
        }

        long cell(int i) {
            return i >= 0 && i < size ? cells[i] : NONE;
        }

        void put(int i, long value) {
            if (i >= 0 && i < size) {
                cells[i] = cut(value);
            }
        }

        private long cut(long value) {
            switch (width) {
                case 0: return (byte) value;
                case 1: return (short) value;
                case 2: return (int) value;
                default: return value;
            }
        }

        /** Said by a difference, as a sum might wrap around. */
        boolean hasStretch(int i, int n) {
            return i >= 0 && n >= 0 && i <= size && n <= size - i;
        }
    }
}
