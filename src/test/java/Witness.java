import java.math.BigInteger;
import java.util.ArrayList;
import java.util.Arrays;
import java.util.HashMap;
import java.util.List;
import java.util.Map;
import java.util.function.IntPredicate;
import java.util.stream.IntStream;

/**
 * A whole object told a second time, without code of the class or of Model: every promise, wrong numbers and the order of
 * refusals too, by a call's name and its numbers. It is slow, keeps what was told and the list of acts, and works all else
 * out anew at each question, by other ways than the class where there are any.
 */
final class Witness {
    /** What was told: hang alone changes it. */
    private static final class Party {
        int lines;
        final int[] head = new int[4];
        final List<int[]> doors = new ArrayList<>();
        final List<int[]> ladies = new ArrayList<>();
        final List<int[]> ministers = new ArrayList<>();
        final List<int[]> bids = new ArrayList<>();

        Party copy() {
            Party p = new Party();
            p.lines = lines;
            System.arraycopy(head, 0, p.head, 0, 4);
            doors.forEach(row -> p.doors.add(row.clone()));
            p.ladies.addAll(ladies);
            p.ministers.addAll(ministers);
            p.bids.addAll(bids);
            return p;
        }
    }

    /** An act: a bid of {lady, room, at}, or a move of {minister, lady}. */
    private record State(Party party, List<int[]> acts) {
        State copy() {
            return new State(party == null ? null : party.copy(), new ArrayList<>(acts));
        }
    }

    private record Row(int width, long[] numbers) {
    }

    private static final long NOT = -2;

    private final List<Integer> tape = new ArrayList<>();
    private long fault = 0;
    private long place = -1;
    private State s = new State(null, new ArrayList<>());
    private final State[] images = new State[3];
    private final Row[] slots = new Row[4];
    /** Where all go as things stand, for one call: worked out when it is first asked for. */
    private int[][] places;

    // ---- the call by its name ----

    long answer(String name, long... a) {
        places = null;
        switch (name) {
            case "feed": return feed(a);
            case "end": return end(a[0]);
            case "ball": return ball();
            case "fault": return a[0] == 0 ? fault : a[0] == 1 ? place : -1;
            case "count": return count(a[0]);
            case "image": return image(a[0]);
            case "back": return back(a[0]);
            case "row": return row(a[0], a[1], a[2]);
            case "write": return write(a[0], a[1], a[2]);
            case "paste": return paste(a);
            case "gains": return s.party == null ? -1000 : gains(a);
            default: return s.party == null ? NOT : ofBall(name, a);
        }
    }

    private long ofBall(String name, long[] a) {
        switch (name) {
            case "door": return cell(s.party.doors, a[0], a[1]);
            case "lady": return cell(s.party.ladies, a[0], a[1]);
            case "minister": return cell(ministersNow(), a[0], a[1]);
            case "way": return lady(a[0]) && room(a[1]) && room(a[2]) ? way(a[0], a[1], a[2], s.party.doors) : NOT;
            case "reach": return lady(a[0]) && room(a[1])
                ? bits(rooms(), r -> way(a[0], a[1], r, s.party.doors) != -1) : NOT;
            case "bidden": return lady(a[0]) && dance(a[1]) ? bidden((int) a[0], (int) a[1]) : NOT;
            case "at": return lady(a[0]) && dance(a[1]) ? goings()[(int) a[0]][(int) a[1]] : NOT;
            case "within": return room(a[0]) && dance(a[1]) ? within(a[0], (int) a[1]) : NOT;
            case "crush": return crush();
            case "crushed": return IntStream.rangeClosed(0, dances()).filter(d -> fullest(d) == crush()).findFirst().getAsInt();
            case "alone": return dance(a[0]) ? bits(ladies(), l -> Long.bitCount(within(goings()[l][(int) a[0]], (int) a[0])) == 1) : NOT;
            case "empty": return dance(a[0]) ? bits(rooms(), r -> within(r, (int) a[0]) == 0) : NOT;
            case "steps": case "sees": case "friends": case "likes": case "late": case "waits": case "mate": case "hears":
                return lady(a[0]) ? ofOne(name, (int) a[0]) : NOT;
            case "meets": case "often": return lady(a[0]) && lady(a[1]) ? ofTwo(name, (int) a[0], (int) a[1]) : NOT;
            case "apart": return lady(a[0]) && lady(a[1]) && dance(a[2])
                ? way(a[0], goings()[(int) a[0]][(int) a[2]], goings()[(int) a[1]][(int) a[2]], s.party.doors) : NOT;
            case "bars": return lady(a[0]) && room(a[1]) && room(a[2]) ? bars(a) : NOT;
            case "have": case "gets": case "from": case "all": case "lasts": case "needed": case "by": case "hands": case "best":
                return ofNote(name, a);
            case "carry": case "walk": case "widen": case "shut": case "firsts": case "ask": case "leaves":
                return ofPlans(name, a);
            case "chance": case "mean": case "drawn": case "luck": return ofMusic(name, a);
            case "bid": case "move": case "undo": case "anew": case "hang": return ofActs(name, a);
            case "rests": return rests(a);
            default: return ofHouse(name, a);
        }
    }

    private static long cell(List<int[]> rows, long i, long what) {
        boolean known = i >= 0 && i < rows.size() && what >= 0 && what < rows.get((int) i).length;
        return known ? rows.get((int) i)[(int) what] : NOT;
    }

    private static long bits(int n, IntPredicate holds) {
        return IntStream.range(0, n).filter(holds).mapToLong(i -> 1L << i).sum();
    }

    private static boolean has(long set, long i) {
        return (set >> i) % 2 == 1;
    }

    private int rooms() {
        return s.party.head[0];
    }

    private int dances() {
        return s.party.head[1];
    }

    private int ladies() {
        return s.party.ladies.size();
    }

    private boolean lady(long l) {
        return l >= 0 && l < ladies();
    }

    private boolean room(long r) {
        return r >= 0 && r < rooms();
    }

    private boolean dance(long d) {
        return d >= 0 && d <= dances();
    }

    // ---- the tape and its text ----

    private long feed(long[] a) {
        if (tape.size() + 20 > 1000) {
            return -1;
        }
        for (long number : a) {
            for (int i = 3; i >= 0; i--) {
                tape.add((int) (number >> 8 * i & 255));
            }
        }
        return tape.size();
    }

    private long end(long n) {
        if (n < 0 || n > tape.size()) {
            return -1;
        }
        tape.subList((int) n, tape.size()).clear();
        return n;
    }

    private long ball() {
        Party read = new Party();
        fault = 0;
        place = -1;
        String[] grammar = {};
        int step = 0;
        List<Integer> numbers = new ArrayList<>();
        int i = 0;
        while (fault == 0) {
            while (i < tape.size() && (tape.get(i) == 32 || tape.get(i) == 10)) {
                i++;
            }
            String token = tokenAt(i);
            if (step == grammar.length) {
                if (token.isEmpty()) {
                    break;
                }
                grammar = lineOf(token, read).split(" ");
                step = 0;
                numbers.clear();
            }
            fault = faultOf(grammar[step], token, step, read, numbers);
            place = fault == 0 ? -1 : i;
            if (fault == 0 && token.matches("[0-9]+")) {
                numbers.add(Integer.parseInt(token.replaceAll("^0+(?=.)", "")));
            }
            step++;
            if (fault == 0 && step == grammar.length) {
                take(grammar[0], numbers, read);
            }
            i += token.length();
        }
        if (fault != 0) {
            return -4;
        }
        tape.clear();
        s = new State(read.lines == 0 ? null : read, new ArrayList<>());
        return read.lines;
    }

    /** The longest token from a byte on; empty at the end. */
    private String tokenAt(int start) {
        StringBuilder token = new StringBuilder();
        for (int i = start; i < tape.size(); i++) {
            char sign = (char) (int) tape.get(i);
            String longer = token.toString() + sign;
            if (!token.isEmpty() && !longer.matches("[a-z]+|[0-9]+")) {
                break;
            }
            token.append(sign);
        }
        return token.toString();
    }

    private static String lineOf(String word, Party read) {
        String wanted = read.lines == 0 ? "ball" : word;
        switch (wanted) {
            case "ball": return read.lines > 0 ? "?" : "ball rooms 1..8 dances 1..14 law 0..3 odds 0..10 ;";
            case "door": return "door R to OTHER wide 1..9 ;";
            case "lady": return "lady in R wide 1..9 ;";
            case "minister": return "minister under L seats 1..20 ;";
            case "bid": return "bid L to R at 0..13 ;";
            default: return "?";
        }
    }

    private static long faultOf(String part, String token, int step, Party read, List<Integer> numbers) {
        if (step == 0 && part.equals(token)) {
            int told = part.equals("ball") ? 0 : listOf(part, read).size();
            int most = Map.of("ball", 1, "door", 12, "lady", 6, "minister", 8, "bid", 10).get(part);
            return told >= most ? 3 : 0;
        }
        if (part.matches("[a-z;?]+")) {
            return part.equals(token) && !part.equals("?") ? 0 : 1;
        }
        if (!token.matches("[0-9]+")) {
            return 1;
        }
        String digits = token.replaceAll("^0+(?=.)", "");
        int number = digits.length() > 8 ? 99999999 : Integer.parseInt(digits);
        if (part.equals("L")) {
            return number < read.ladies.size() ? 0 : 2;
        }
        if (part.equals("R") || part.equals("OTHER")) {
            return number < read.head[0] && !(part.equals("OTHER") && numbers.get(0) == number) ? 0 : 2;
        }
        String[] bounds = part.split("\\.\\.");
        return number >= Integer.parseInt(bounds[0]) && number <= Integer.parseInt(bounds[1]) ? 0 : 2;
    }

    private static List<int[]> listOf(String word, Party read) {
        return word.equals("door") ? read.doors : word.equals("lady") ? read.ladies : word.equals("minister") ? read.ministers : read.bids;
    }

    private static void take(String word, List<Integer> numbers, Party read) {
        int[] told = numbers.stream().mapToInt(n -> n).toArray();
        read.lines++;
        if (word.equals("ball")) {
            System.arraycopy(told, 0, read.head, 0, 4);
        } else {
            listOf(word, read).add(told);
        }
    }

    private long count(long what) {
        if (what == 10) {
            return tape.size();
        }
        if (what == 11) {
            return Arrays.stream(slots).filter(slot -> slot != null).count();
        }
        if (what < 0 || what > 11) {
            return -1;
        }
        Party p = s.party == null ? new Party() : s.party;
        int[] rest = {p.doors.size(), p.ladies.size(), p.ministers.size(), p.bids.size(), s.acts.size(), p.lines};
        return what < 4 ? p.head[(int) what] : rest[(int) what - 4];
    }

    // ---- images and slots ----

    private long image(long k) {
        if (k < 0 || k > 2) {
            return NOT;
        }
        images[(int) k] = s.copy();
        return 0;
    }

    private long back(long k) {
        if (k < 0 || k > 2) {
            return NOT;
        }
        if (images[(int) k] == null) {
            return -6;
        }
        s = images[(int) k].copy();
        return 0;
    }

    private static boolean slot(long k) {
        return k >= 0 && k <= 3;
    }

    private long row(long slot, long width, long n) {
        if (!slot(slot) || width < 0 || width > 3 || n > 60) {
            return NOT;
        }
        if (n < 0) {
            return -3;
        }
        slots[(int) slot] = new Row((int) width, new long[(int) n]);
        return 0;
    }

    private long write(long slot, long i, long v) {
        if (!slot(slot)) {
            return NOT;
        }
        Row row = slots[(int) slot];
        if (row == null) {
            return -6;
        }
        if (i < 0 || i >= row.numbers.length) {
            return -7;
        }
        int lost = 64 - (8 << row.width);
        row.numbers[(int) i] = v << lost >> lost;
        return 0;
    }

    private long paste(long[] a) {
        if (!slot(a[0]) || !slot(a[2])) {
            return NOT;
        }
        Row from = slots[(int) a[0]];
        Row to = slots[(int) a[2]];
        if (from == null || to == null) {
            return -6;
        }
        if (from.width != to.width) {
            return -8;
        }
        if (a[1] < 0 || a[3] < 0 || a[4] < 0 || a[1] + a[4] > from.numbers.length || a[3] + a[4] > to.numbers.length) {
            return -7;
        }
        long[] were = from.numbers.clone();
        for (int i = 0; i < a[4]; i++) {
            to.numbers[(int) a[3] + i] = were[(int) a[1] + i];
        }
        return 0;
    }

    // ---- where each goes ----

    /** Fewest doors by trying ways of 0, 1, 2 .. doors. */
    private long way(long lady, long from, long to, List<int[]> doors) {
        int wide = s.party.ladies.get((int) lady)[1];
        long here = 1L << from;
        for (int n = 0; n < 9; n++) {
            if (has(here, to)) {
                return n;
            }
            long next = 0;
            for (int[] door : doors) {
                if (door[2] >= wide) {
                    next |= has(here, door[0]) ? 1L << door[1] : 0;
                    next |= has(here, door[1]) ? 1L << door[0] : 0;
                }
            }
            here = next;
        }
        return -1;
    }

    private long bars(long[] a) {
        for (int wide = 1; wide <= 9; wide++) {
            List<int[]> doors = new ArrayList<>();
            for (int[] door : s.party.doors) {
                doors.add(new int[] {door[0], door[1], wide});
            }
            if (way(a[0], a[1], a[2], doors) != -1) {
                return wide;
            }
        }
        return -1;
    }

    private int bidden(int lady, int dance) {
        List<int[]> bids = new ArrayList<>(s.party.bids);
        s.acts.stream().filter(act -> act.length == 3).forEach(bids::add);
        for (int at = dance; at >= 0; at--) {
            for (int i = bids.size() - 1; i >= 0; i--) {
                if (bids.get(i)[0] == lady && bids.get(i)[2] == at) {
                    return bids.get(i)[1];
                }
            }
        }
        return -1;
    }

    private int[][] goings() {
        if (places == null) {
            places = goings(s.party.doors, 0);
        }
        return places;
    }

    /** Rooms by lady and dance; some (bits) stay where they were told. */
    private int[][] goings(List<int[]> doors, long staying) {
        int[][] where = new int[ladies()][dances() + 1];
        for (int lady = 0; lady < ladies(); lady++) {
            where[lady][0] = s.party.ladies.get(lady)[0];
            for (int n = 0; n < dances(); n++) {
                int goal = has(staying, lady) ? -1 : bidden(lady, n);
                where[lady][n + 1] = goal == -1 ? where[lady][n] : next(lady, where[lady][n], goal, doors);
            }
        }
        return where;
    }

    private int next(int lady, int from, int goal, List<int[]> doors) {
        long left = way(lady, from, goal, doors);
        for (int room = 0; room < rooms() && left > 0; room++) {
            if (way(lady, from, room, doors) == 1 && way(lady, room, goal, doors) == left - 1) {
                return room;
            }
        }
        return from;
    }

    private long within(long room, int dance) {
        int[][] where = goings();
        return bits(ladies(), l -> where[l][dance] == room);
    }

    private long fullest(int dance) {
        return IntStream.range(0, rooms()).mapToLong(r -> Long.bitCount(within(r, dance))).max().getAsLong();
    }

    private long crush() {
        return IntStream.rangeClosed(0, dances()).mapToLong(this::fullest).max().getAsLong();
    }

    private static long doorsGone(int[] mine) {
        return IntStream.range(1, mine.length).filter(d -> mine[d] != mine[d - 1]).count();
    }

    private static long met(int[][] where, int lady) {
        return bits(where.length, l -> l != lady && IntStream.range(0, where[l].length).anyMatch(d -> where[l][d] == where[lady][d]));
    }

    private long ofOne(String name, int lady) {
        int[][] where = goings();
        int[] mine = where[lady];
        switch (name) {
            case "steps": return doorsGone(mine);
            case "sees": return bits(rooms(), r -> Arrays.stream(mine).anyMatch(one -> one == r));
            case "friends": return met(where, lady);
            case "likes": return firstOfMost(rooms(), 0, r -> Arrays.stream(mine).filter(one -> one == r).count());
            case "late": return IntStream.range(1, mine.length).filter(d -> mine[d] != mine[d - 1]).max().orElse(-1);
            case "waits": return IntStream.range(0, dances())
                .filter(d -> bidden(lady, d) != -1 && way(lady, mine[d], bidden(lady, d), s.party.doors) == -1).count();
            case "mate": return firstOfMost(ladies(), 0, l -> l == lady ? 0 : ofTwo("often", lady, l));
            default: return bits(ladies(), first -> got(where, law(), first, -1, 0)[0][lady] != -1);
        }
    }

    private interface Worth {
        long of(int i);
    }

    /** The first of those that are worth most, if more than nothing; -1. */
    private static long firstOfMost(int n, long nothing, Worth worth) {
        long most = IntStream.range(0, n).mapToLong(worth::of).max().orElse(nothing);
        return most <= nothing ? -1 : IntStream.range(0, n).filter(i -> worth.of(i) == most).findFirst().getAsInt();
    }

    private long ofTwo(String name, int lady, int other) {
        int[][] where = goings();
        IntStream together = IntStream.rangeClosed(0, dances()).filter(d -> where[lady][d] == where[other][d]);
        return name.equals("often") ? together.count() : together.findFirst().orElse(-1);
    }

    // ---- notes ----

    private int law() {
        return s.party.head[2];
    }

    private boolean lawful(int law, int giver, int taker) {
        switch (law) {
            case 0: return true;
            case 1: return ministersNow().stream().anyMatch(row -> row[0] == taker);
            case 2: return s.party.ladies.get(taker)[1] <= s.party.ladies.get(giver)[1];
            default: return seats(1L << taker) < seats(1L << giver);
        }
    }

    /** When each gets it and from whom (-1): a note is asked for at each dance by who has none, of who had it ahead. */
    private int[][] got(int[][] where, int law, int first, int absent, long loud) {
        int[] when = new int[where.length];
        int[] from = new int[where.length];
        Arrays.fill(when, -1);
        Arrays.fill(from, -1);
        when[first] = 0;
        for (int d = 0; d <= dances(); d++) {
            for (int taker = 0; taker < where.length && !has(loud, d); taker++) {
                for (int giver = where.length - 1; giver >= 0; giver--) {
                    boolean gives = giver == first || when[giver] != -1 && when[giver] < d;
                    boolean wants = taker != first && (when[taker] == -1 || when[taker] == d);
                    if (gives && wants && giver != absent && taker != absent && where[giver][d] == where[taker][d]
                        && lawful(law, giver, taker)) {
                        when[taker] = d;
                        from[taker] = giver;
                    }
                }
            }
        }
        return new int[][] {when, from};
    }

    private static long holders(int[][] got, long dance) {
        return bits(got[0].length, l -> got[0][l] != -1 && got[0][l] <= dance);
    }

    private long ofNote(String name, long[] a) {
        int[][] where = goings();
        int last = dances();
        if (name.equals("best")) {
            return firstOfMost(ladies(), 0, l -> Long.bitCount(holders(got(where, law(), l, -1, 0), last)));
        }
        if (!lady(a[0])) {
            return NOT;
        }
        int first = (int) a[0];
        int[][] got = got(where, law(), first, -1, 0);
        switch (name) {
            case "have": return dance(a[1]) ? holders(got, a[1]) : NOT;
            case "gets": return lady(a[1]) ? got[0][(int) a[1]] : NOT;
            case "from": return lady(a[1]) ? got[1][(int) a[1]] : NOT;
            case "hands": return lady(a[1]) ? hands(got, first, (int) a[1]) : NOT;
            case "all": return Arrays.stream(got[0]).min().getAsInt() == -1 ? -1 : Arrays.stream(got[0]).max().getAsInt();
            case "lasts": return IntStream.range(0, ladies()).filter(l -> got[1][l] != -1).map(l -> got[0][l]).max().orElse(-1);
            case "needed": return bits(ladies(), l -> l != first
                && (holders(got, last) & ~holders(got(where, law(), first, l, 0), last) & ~(1L << l)) != 0);
            default: return a[1] >= 0 && a[1] <= 3 ? holders(got(where, (int) a[1], first, -1, 0), last) : NOT;
        }
    }

    private static long hands(int[][] got, int first, int lady) {
        if (got[0][lady] == -1) {
            return -1;
        }
        return lady == first ? 0 : 1 + hands(got, first, got[1][lady]);
    }

    // ---- carriers, doors, who was first ----

    private long ofPlans(String name, long[] a) {
        switch (name) {
            case "carry": return lady(a[0]) && lady(a[1]) && lady(a[2]) && a[1] != a[2] ? walk(a).size() - 1 : NOT;
            case "walk": return lady(a[0]) && lady(a[1]) && lady(a[2]) && a[1] != a[2] && dance(a[3]) ? walkRoom(a) : NOT;
            case "widen": return lady(a[0]) && a[1] >= 0 && a[1] < s.party.doors.size() ? widen((int) a[0], (int) a[1]) : NOT;
            case "shut": return lady(a[0]) && a[1] >= 0 && a[1] < s.party.doors.size()
                ? holders(got(goings(doorsWith((int) a[1], 0), 0), law(), (int) a[0], -1, 0), dances()) : NOT;
            default: return seen(name, a[0]);
        }
    }

    private long walkRoom(long[] a) {
        List<Integer> walk = walk(a);
        return walk.isEmpty() ? -1 : walk.get((int) Math.min(a[3], walk.size() - 1));
    }

    /**
     * The first walk, up to the dance of giving; empty if there is none. Forward: of all walks that bring her to a room
     * with the note, or without, only the least row needs to be kept.
     */
    private List<Integer> walk(long[] a) {
        int first = (int) a[0];
        int lady = (int) a[1];
        int other = (int) a[2];
        int[][] where = goings();
        int[][] got = got(where, law(), first, lady, 0);
        Map<List<Object>, List<Integer>> least = new HashMap<>();
        least.put(List.of(where[lady][0], lady == first), List.of(where[lady][0]));
        for (int d = 0; d <= dances(); d++) {
            List<Integer> given = least.get(List.of(where[other][d], true));
            if (given != null) {
                return given;
            }
            Map<List<Object>, List<Integer>> later = new HashMap<>();
            for (List<Object> state : least.keySet()) {
                int here = (Integer) state.get(0);
                boolean has = (Boolean) state.get(1);
                for (int l = 0; l < ladies(); l++) {
                    boolean hers = l == first || got[0][l] != -1 && got[0][l] < d;
                    has |= l != lady && hers && where[l][d] == here;
                }
                for (int room = 0; room < rooms(); room++) {
                    long far = way(lady, here, room, s.party.doors);
                    if (far == 0 || far == 1) {
                        List<Integer> longer = new ArrayList<>(least.get(state));
                        longer.add(room);
                        later.merge(List.of(room, has), longer, Witness::lesser);
                    }
                }
            }
            least = later;
        }
        return List.of();
    }

    private static List<Integer> lesser(List<Integer> one, List<Integer> two) {
        for (int i = 0; i < one.size(); i++) {
            if (!one.get(i).equals(two.get(i))) {
                return one.get(i) < two.get(i) ? one : two;
            }
        }
        return one;
    }

    private List<int[]> doorsWith(int which, int wide) {
        List<int[]> doors = new ArrayList<>(s.party.doors);
        int[] door = doors.remove(which);
        if (wide > 0) {
            doors.add(new int[] {door[0], door[1], wide});
        }
        return doors;
    }

    private long widen(int first, int door) {
        return 1 + firstOfMost(9, 0, i ->
            Long.bitCount(holders(got(goings(doorsWith(door, i + 1), 0), law(), first, -1, 0), dances())));
    }

    private long seen(String name, long slot) {
        if (!slot(slot)) {
            return NOT;
        }
        Row row = slots[(int) slot];
        if (row == null) {
            return -6;
        }
        long[] v = row.numbers;
        boolean wrong = v.length % 3 != 0;
        for (int i = 0; i + 2 < v.length; i += 3) {
            wrong |= !lady(v[i]) || !dance(v[i + 1]) || v[i + 2] != 0 && v[i + 2] != 1;
        }
        if (wrong) {
            return NOT;
        }
        int[][] where = goings();
        long firsts = bits(ladies(), first -> agrees(got(where, law(), first, -1, 0), v));
        if (name.equals("firsts")) {
            return firsts;
        }
        long now = Long.bitCount(firsts);
        long asked = firstOfMost(ladies(), -now, lady -> -worst(where, firsts, lady));
        return name.equals("ask") ? asked : asked == -1 ? now : worst(where, firsts, (int) asked);
    }

    private static boolean agrees(int[][] got, long[] v) {
        for (int i = 0; i + 2 < v.length; i += 3) {
            if ((v[i + 2] == 1) != has(holders(got, v[i + 1]), v[i])) {
                return false;
            }
        }
        return true;
    }

    private long worst(int[][] where, long firsts, int lady) {
        Map<Integer, Integer> left = new HashMap<>();
        for (int first = 0; first < ladies(); first++) {
            if (has(firsts, first)) {
                left.merge(got(where, law(), first, -1, 0)[0][lady], 1, Integer::sum);
            }
        }
        return left.values().stream().mapToInt(n -> n).max().orElse(0);
    }

    // ---- the house ----

    private List<int[]> ministersNow() {
        List<int[]> now = new ArrayList<>();
        for (int i = 0; i < s.party.ministers.size(); i++) {
            int[] row = s.party.ministers.get(i).clone();
            for (int[] act : s.acts) {
                row[0] = act.length == 2 && act[0] == i ? act[1] : row[0];
            }
            now.add(row);
        }
        return now;
    }

    private int seats(long set) {
        return ministersNow().stream().filter(row -> has(set, row[0])).mapToInt(row -> row[1]).sum();
    }

    private long everybody() {
        return (1L << ladies()) - 1;
    }

    private boolean holding(long set) {
        return seats(set) > seats(everybody() - set);
    }

    private long power(int lady) {
        return IntStream.rangeClosed(0, (int) everybody())
            .filter(set -> has(set, lady) && holding(set) && !holding(set - (1L << lady))).count();
    }

    private boolean least(int set) {
        return holding(set) && IntStream.range(0, ladies()).noneMatch(l -> has(set, l) && holding(set - (1L << l)));
    }

    private long ofHouse(String name, long[] a) {
        boolean isSet = a.length > 0 && a[0] >= 0 && a[0] <= everybody();
        switch (name) {
            case "holds": return !isSet ? NOT : holding(a[0]) ? 1 : 0;
            case "blocks": return !isSet ? NOT : holding(everybody() - a[0]) ? 0 : 1;
            case "seats": return lady(a[0]) ? seats(1L << a[0]) : NOT;
            case "under": return lady(a[0]) ? bits(s.party.ministers.size(), m -> ministersNow().get(m)[0] == a[0]) : NOT;
            case "power": return lady(a[0]) ? power((int) a[0]) : NOT;
            case "part": return part(a[0], a[1]);
            case "dummies": return bits(ladies(), l -> power(l) == 0);
            case "strongest": return firstOfMost(ladies(), 0, this::power);
            case "cabinet": return firstOfMost((int) everybody() + 1, 0, set -> holding(set) ? 10 - Long.bitCount(set) : 0);
            case "cabinets": return IntStream.rangeClosed(0, (int) everybody()).filter(this::least).count();
            case "kingmaker": return IntStream.range(0, s.party.ministers.size()).filter(this::makesKing).findFirst().orElse(-1);
            default: throw new IllegalStateException("there is no call " + name);
        }
    }

    private boolean makesKing(int minister) {
        int[] his = ministersNow().get(minister);
        for (int lady = 0; lady < ladies(); lady++) {
            s.acts.add(new int[] {minister, lady});
            boolean holds = his[0] != lady && holding(1L << lady);
            s.acts.remove(s.acts.size() - 1);
            if (holds) {
                return true;
            }
        }
        return false;
    }

    private long part(long lady, long what) {
        if (!lady(lady) || what != 0 && what != 1) {
            return NOT;
        }
        return s.party.ministers.isEmpty() ? -1 : term(BigInteger.valueOf(seats(1L << lady)), BigInteger.valueOf(seats(everybody())), what);
    }

    private static long term(BigInteger above, BigInteger below, long what) {
        return (what == 0 ? above : below).divide(above.gcd(below)).longValueExact();
    }

    // ---- the game, the music ----

    private boolean pair(long[] a) {
        return lady(a[0]) && lady(a[1]) && a[0] != a[1];
    }

    private long gains(long[] a) {
        if (!pair(a) || a[2] != 0 && a[2] != 1 || a[3] != 0 && a[3] != 1) {
            return -1000;
        }
        int[][] where = goings(s.party.doors, a[2] << a[0] | a[3] << a[1]);
        return 2L * Long.bitCount(met(where, (int) a[0])) - doorsGone(where[(int) a[0]]);
    }

    private long rests(long[] a) {
        if (!pair(a)) {
            return NOT;
        }
        long found = 0;
        for (int x = 0; x < 2; x++) {
            for (int y = 0; y < 2; y++) {
                boolean hers = gains(new long[] {a[0], a[1], x, y}) >= gains(new long[] {a[0], a[1], 1 - x, y});
                boolean others = gains(new long[] {a[1], a[0], y, x}) >= gains(new long[] {a[1], a[0], 1 - y, x});
                found += hers && others ? x + y == 0 ? 1 : x + y == 2 ? 8 : x == 1 ? 2 : 4 : 0;
            }
        }
        return found;
    }

    private long ofMusic(String name, long[] a) {
        switch (name) {
            case "chance": return lady(a[0]) && lady(a[1]) && a[2] <= 8 && dance(a[2]) && (a[3] == 0 || a[3] == 1)
                ? fraction((int) a[0], 1L << a[1], (int) a[2], a[3]) : NOT;
            case "mean": return lady(a[0]) && a[1] <= 8 && dance(a[1]) && (a[2] == 0 || a[2] == 1)
                ? fraction((int) a[0], everybody(), (int) a[1], a[2]) : NOT;
            case "drawn": return seed(a[0]) && lady(a[1]) && (a[2] == 0 || a[2] == 1)
                ? a[2] == 0 ? loud(a[0]) : drawn(a[0], (int) a[1]) : NOT;
            default: return seed(a[0]) && a[1] >= 1 && a[1] <= 20 && lady(a[2]) && lady(a[3])
                ? IntStream.range(0, (int) a[1]).filter(i -> has(drawn(a[0] + i, (int) a[2]), a[3])).count() : NOT;
        }
    }

    private static boolean seed(long seed) {
        return seed >= 0 && seed <= 2000000000;
    }

    /** How many of the counted ones have it, weighed by every row of loud and still dances, in tenths. */
    private long fraction(int first, long counted, int dance, long what) {
        int[][] where = goings();
        BigInteger above = BigInteger.ZERO;
        for (int loud = 0; loud < 2 << dance; loud++) {
            BigInteger weight = BigInteger.ONE;
            for (int d = 0; d <= dance; d++) {
                weight = weight.multiply(BigInteger.valueOf(has(loud, d) ? s.party.head[3] : 10 - s.party.head[3]));
            }
            long many = Long.bitCount(holders(got(where, law(), first, -1, loud), dance) & counted);
            above = above.add(weight.multiply(BigInteger.valueOf(many)));
        }
        return term(above, BigInteger.TEN.pow(dance + 1), what);
    }

    private long loud(long seed) {
        long x = seed;
        long found = 0;
        for (int d = 0; d <= dances(); d++) {
            // modulo a power of two: the low bits of a product that wraps around are right
            x = x * 1103515245L + 12345L & 0x7fffffffL;
            found |= (x >> 16) % 10 < s.party.head[3] ? 1L << d : 0;
        }
        return found;
    }

    private long drawn(long seed, int first) {
        return holders(got(goings(), law(), first, -1, loud(seed)), dances());
    }

    // ---- acts ----

    private long ofActs(String name, long[] a) {
        int acts = s.acts.size();
        switch (name) {
            case "bid":
                if (!lady(a[0]) || !room(a[1]) || a[2] < 0 || a[2] > 13) {
                    return NOT;
                }
                return acts >= 30 ? -5 : bid(a);
            case "move":
                if (a[0] < 0 || a[0] >= s.party.ministers.size() || !lady(a[1])) {
                    return NOT;
                }
                return acts >= 30 ? -5 : move(a);
            case "undo":
                if (acts == 0) {
                    return -5;
                }
                s.acts.remove(acts - 1);
                return acts - 1;
            case "anew":
                s.acts.clear();
                return acts;
            default:
                if (a[0] < 0 || a[0] >= s.party.doors.size() || a[1] < 1 || a[1] > 9) {
                    return NOT;
                }
                return acts > 0 ? -5 : hang(a);
        }
    }

    private long bid(long[] a) {
        s.acts.add(new int[] {(int) a[0], (int) a[1], (int) a[2]});
        return goings()[(int) a[0]][dances()];
    }

    private long move(long[] a) {
        long was = ministersNow().get((int) a[0])[0];
        s.acts.add(new int[] {(int) a[0], (int) a[1]});
        return was;
    }

    private long hang(long[] a) {
        int[] door = s.party.doors.get((int) a[0]);
        int was = door[2];
        door[2] = (int) a[1];
        return was;
    }
}
