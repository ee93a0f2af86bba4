import java.math.BigInteger;
import java.util.ArrayList;
import java.util.HashSet;
import java.util.List;
import java.util.Set;
import java.util.TreeSet;
import java.util.function.Predicate;
import java.util.regex.Matcher;
import java.util.regex.Pattern;

/**
 * The document told again in the plainest way, without care for speed or room: what HoopCabinet is held against.
 * It takes ladies, rooms and dances that there are; wrong arguments are tested elsewhere.
 */
final class Model {
    private static final Pattern TOKEN = Pattern.compile("[a-z]+|[0-9]+|;|[^ \n]", Pattern.DOTALL);
    private static final String[] LINES = {
        "ball rooms 1-8 dances 1-14 law 0-3 odds 0-10 ;",
        "door R to U wide 1-9 ;", "lady in R wide 1-9 ;", "minister under L seats 1-20 ;", "bid L to R at 0-13 ;"};
    private static final int[] MOST = {1, 12, 6, 8, 10};

    int fault;
    int place = -1;
    int lines;
    int rooms;
    int dances;
    int law;
    int odds;
    final List<int[]> doors = new ArrayList<>();
    final List<int[]> ladies = new ArrayList<>();
    final List<int[]> ministers = new ArrayList<>();
    final List<int[]> bids = new ArrayList<>();

    // ---- the text ----

    static Model read(String text) {
        Model m = new Model();
        List<String> tokens = new ArrayList<>();
        List<Integer> places = new ArrayList<>();
        Matcher matcher = TOKEN.matcher(text);
        while (matcher.find()) {
            tokens.add(matcher.group());
            places.add(matcher.start());
        }
        places.add(text.length());
        int i = 0;
        while (i < tokens.size() && m.fault == 0) {
            i = m.readLine(tokens, places, i);
        }
        return m;
    }

    private int readLine(List<String> tokens, List<Integer> places, int start) {
        int kind = -1;
        for (int k = 0; k < LINES.length; k++) {
            if (LINES[k].startsWith(tokens.get(start) + " ") && (k == 0) == (lines == 0)) {
                kind = k;
            }
        }
        if (kind < 0) {
            return fail(1, places.get(start));
        }
        List<List<int[]>> tables = List.of(new ArrayList<>(), doors, ladies, ministers, bids);
        if (tables.get(kind).size() == MOST[kind]) {
            return fail(3, places.get(start));
        }
        String[] parts = LINES[kind].split(" ");
        List<Integer> numbers = new ArrayList<>();
        for (int k = 0; k < parts.length; k++) {
            String token = start + k < tokens.size() ? tokens.get(start + k) : "";
            int wrong = wrongness(parts[k], token, numbers);
            if (wrong != 0) {
                return fail(wrong, places.get(Math.min(start + k, tokens.size())));
            }
        }
        int[] row = numbers.stream().mapToInt(Integer::intValue).toArray();
        if (kind == 0) {
            rooms = row[0];
            dances = row[1];
            law = row[2];
            odds = row[3];
        }
        if (kind > 0) {
            tables.get(kind).add(row);
        }
        lines++;
        return start + parts.length;
    }

    private int wrongness(String part, String token, List<Integer> numbers) {
        if (part.equals(";") || part.matches("[a-z]+")) {
            return part.equals(token) ? 0 : 1;
        }
        if (!token.matches("[0-9]+")) {
            return 1;
        }
        BigInteger value = new BigInteger(token);
        int low = part.contains("-") ? Integer.parseInt(part.substring(0, part.indexOf('-'))) : 0;
        int high = part.contains("-") ? Integer.parseInt(part.substring(part.indexOf('-') + 1))
            : part.equals("L") ? ladies.size() - 1 : rooms - 1;
        if (value.compareTo(BigInteger.valueOf(low)) < 0 || value.compareTo(BigInteger.valueOf(high)) > 0) {
            return 2;
        }
        if (part.equals("U") && numbers.get(0) == value.intValue()) {
            return 2;
        }
        numbers.add(value.intValue());
        return 0;
    }

    private int fail(int what, int where) {
        fault = what;
        place = where;
        return Integer.MAX_VALUE;
    }

    Model copy() {
        Model m = new Model();
        m.lines = lines;
        m.rooms = rooms;
        m.dances = dances;
        m.law = law;
        m.odds = odds;
        doors.forEach(row -> m.doors.add(row.clone()));
        ladies.forEach(row -> m.ladies.add(row.clone()));
        ministers.forEach(row -> m.ministers.add(row.clone()));
        bids.forEach(row -> m.bids.add(row.clone()));
        return m;
    }

    // ---- where they go ----

    boolean joined(int lady, int room, int other) {
        for (int[] door : doors) {
            boolean here = door[0] == room && door[1] == other || door[1] == room && door[0] == other;
            if (here && door[2] >= ladies.get(lady)[1]) {
                return true;
            }
        }
        return false;
    }

    int way(int lady, int room, int other) {
        int[][] far = new int[rooms][rooms];
        for (int a = 0; a < rooms; a++) {
            for (int b = 0; b < rooms; b++) {
                far[a][b] = a == b ? 0 : joined(lady, a, b) ? 1 : 1000;
            }
        }
        for (int c = 0; c < rooms; c++) {
            for (int a = 0; a < rooms; a++) {
                for (int b = 0; b < rooms; b++) {
                    far[a][b] = Math.min(far[a][b], far[a][c] + far[c][b]);
                }
            }
        }
        return far[room][other] >= 1000 ? -1 : far[room][other];
    }

    int bidden(int lady, int dance) {
        int[] best = null;
        for (int[] bid : bids) {
            if (bid[0] == lady && bid[2] <= dance && (best == null || bid[2] >= best[2])) {
                best = bid;
            }
        }
        return best == null ? -1 : best[1];
    }

    int at(int lady, int dance) {
        int room = ladies.get(lady)[0];
        for (int n = 0; n < dance; n++) {
            int goal = bidden(lady, n);
            if (goal >= 0 && goal != room && way(lady, room, goal) > 0) {
                int left = way(lady, room, goal);
                int next = 0;
                while (!(joined(lady, room, next) && way(lady, next, goal) == left - 1)) {
                    next++;
                }
                room = next;
            }
        }
        return room;
    }

    /** Rooms by lady and dance. */
    int[][] places() {
        int[][] rows = new int[ladies.size()][dances + 1];
        for (int lady = 0; lady < rows.length; lady++) {
            for (int dance = 0; dance <= dances; dance++) {
                rows[lady][dance] = at(lady, dance);
            }
        }
        return rows;
    }

    // ---- notes ----

    int seats(int lady) {
        return ministers.stream().filter(row -> row[0] == lady).mapToInt(row -> row[1]).sum();
    }

    boolean allows(int byLaw, int giver, int taker) {
        if (byLaw == 0) {
            return true;
        }
        if (byLaw == 1) {
            return ministers.stream().anyMatch(row -> row[0] == taker);
        }
        return byLaw == 2 ? ladies.get(taker)[1] <= ladies.get(giver)[1] : seats(taker) < seats(giver);
    }

    /** By lady: the dance at which she gets a note, and from whom; -1. The absent one, if any, is not there. */
    int[][] spread(int[][] where, int byLaw, int first, int absent, int loud) {
        int n = ladies.size();
        int[][] got = new int[n][];
        for (int lady = 0; lady < n; lady++) {
            got[lady] = new int[] {lady == first ? 0 : -1, -1};
        }
        for (int dance = 0; dance <= dances; dance++) {
            for (int taker = 0; taker < n; taker++) {
                for (int giver = 0; giver < n; giver++) {
                    boolean gives = giver == first || got[giver][0] >= 0 && got[giver][0] < dance;
                    boolean meet = giver != taker && where[giver][dance] == where[taker][dance];
                    boolean there = giver != absent && taker != absent && (loud >> dance & 1) == 0;
                    if (gives && meet && there && got[taker][0] < 0 && allows(byLaw, giver, taker)) {
                        got[taker] = new int[] {dance, giver};
                    }
                }
            }
        }
        return got;
    }

    static int bits(int[][] got, int dance) {
        int found = 0;
        for (int lady = 0; lady < got.length; lady++) {
            if (got[lady][0] >= 0 && got[lady][0] <= dance) {
                found |= 1 << lady;
            }
        }
        return found;
    }

    // ---- a lady who carries ----

    /** The first of all walks, by the dance of giving, then by its rooms; null if there is none. */
    int[] firstWalk(int first, int lady, int other) {
        int[][] where = places();
        int[][] got = spread(where, law, first, lady, 0);
        for (int last = 0; last <= dances; last++) {
            int[] walk = new int[last + 1];
            walk[0] = ladies.get(lady)[0];
            Predicate<Integer> gives = dance -> where[other][dance] == walk[dance];
            Predicate<Integer> takes = dance -> {
                for (int giver = 0; giver < where.length; giver++) {
                    boolean has = giver == first || got[giver][0] >= 0 && got[giver][0] < dance;
                    if (giver != lady && has && where[giver][dance] == walk[dance]) {
                        return true;
                    }
                }
                return false;
            };
            if (tryWalk(lady, walk, 0, lady == first, takes, gives, new HashSet<>())) {
                return walk;
            }
        }
        return null;
    }

    /** The walk is told up to a dance; had: she has the note from an earlier one. What failed once is not tried again. */
    private boolean tryWalk(int lady, int[] walk, int dance, boolean had, Predicate<Integer> takes, Predicate<Integer> gives,
            Set<List<Object>> failed) {
        if (dance == walk.length - 1) {
            return had && gives.test(dance);
        }
        List<Object> state = List.of(dance, walk[dance], had);
        if (failed.contains(state)) {
            return false;
        }
        boolean has = had || takes.test(dance);
        for (int room = 0; room < rooms; room++) {
            if (room == walk[dance] || joined(lady, walk[dance], room)) {
                walk[dance + 1] = room;
                if (tryWalk(lady, walk, dance + 1, has, takes, gives, failed)) {
                    return true;
                }
            }
        }
        failed.add(state);
        return false;
    }

    // ---- the house ----

    boolean holds(int set) {
        int mine = 0;
        int total = 0;
        for (int[] row : ministers) {
            total += row[1];
            mine += (set >> row[0] & 1) != 0 ? row[1] : 0;
        }
        return mine > total - mine;
    }

    int power(int lady) {
        int found = 0;
        for (int set = 0; set < 1 << ladies.size(); set++) {
            found += holds(set) && !holds(set & ~(1 << lady)) ? 1 : 0;
        }
        return found;
    }

    int cabinet() {
        TreeSet<Integer> best = new TreeSet<>();
        for (int set = 0; set < 1 << ladies.size(); set++) {
            if (holds(set)) {
                best.add(Integer.bitCount(set) * 100 + set);
            }
        }
        return best.isEmpty() ? -1 : best.first() % 100;
    }

    int cabinets() {
        int found = 0;
        for (int set = 0; set < 1 << ladies.size(); set++) {
            boolean least = holds(set);
            for (int part = 0; part < set; part++) {
                least &= (part & ~set) != 0 || !holds(part);
            }
            found += least ? 1 : 0;
        }
        return found;
    }

    int kingmaker() {
        for (int i = 0; i < ministers.size(); i++) {
            for (int lady = 0; lady < ladies.size(); lady++) {
                Model m = copy();
                m.ministers.get(i)[0] = lady;
                if (lady != ministers.get(i)[0] && m.holds(1 << lady)) {
                    return i;
                }
            }
        }
        return -1;
    }

    // ---- the game and the music ----

    int gains(int lady, int other, int x, int y) {
        Model m = copy();
        m.bids.removeIf(bid -> x == 1 && bid[0] == lady || y == 1 && bid[0] == other);
        int[][] where = m.places();
        int found = 0;
        for (int third = 0; third < where.length; third++) {
            boolean met = false;
            for (int dance = 0; dance <= dances; dance++) {
                met |= third != lady && where[third][dance] == where[lady][dance];
            }
            found += met ? 2 : 0;
        }
        for (int dance = 1; dance <= dances; dance++) {
            found -= where[lady][dance] != where[lady][dance - 1] ? 1 : 0;
        }
        return found;
    }

    /** Above and below of a chance (a lady's), or of the mean number (lady -1): over all rows of loud dances. */
    long[] fraction(int first, int lady, int dance) {
        BigInteger above = BigInteger.ZERO;
        int[][] where = places();
        for (int loud = 0; loud < 1 << dance + 1; loud++) {
            int loudOnes = Integer.bitCount(loud);
            BigInteger weight = BigInteger.valueOf(odds).pow(loudOnes)
                .multiply(BigInteger.valueOf(10 - odds).pow(dance + 1 - loudOnes));
            int have = bits(spread(where, law, first, -1, loud), dance);
            int many = lady < 0 ? Integer.bitCount(have) : have >> lady & 1;
            above = above.add(weight.multiply(BigInteger.valueOf(many)));
        }
        BigInteger below = BigInteger.TEN.pow(dance + 1);
        BigInteger divisor = above.gcd(below);
        return new long[] {above.divide(divisor).longValueExact(), below.divide(divisor).longValueExact()};
    }

    int loud(int seed) {
        BigInteger x = BigInteger.valueOf(seed);
        int found = 0;
        for (int dance = 0; dance <= dances; dance++) {
            x = x.multiply(BigInteger.valueOf(1103515245)).add(BigInteger.valueOf(12345)).mod(BigInteger.ONE.shiftLeft(31));
            found |= x.shiftRight(16).mod(BigInteger.TEN).intValue() < odds ? 1 << dance : 0;
        }
        return found;
    }
}
