import java.util.List;

/**
 * The boundary cases of Terms I (TOKENS, FAULTS) and of promises 1 to 5 and 68: each number of a text at its ends, each
 * byte, texts cut off, tables that are full, the tape that is full.
 */
public final class TextEdgeTest {
    private static final String HEAD = "ball rooms 3 dances 4 law 0 odds 5;";
    private static final String LADY = HEAD + "lady in 0 wide 1;";

    public static void main(String[] args) {
        newObject();
        feed();
        end();
        ball();
        ballRefused();
        fault();
        numbersOfBall();
        numbersOfDoor();
        numbersOfLady();
        numbersOfMinister();
        numbersOfBid();
        toldAhead();
        fullTables();
        ballFirst();
        bytes();
        longestTokens();
        cutOff();
        words();
        leastFault();
        count();
        calls();
        Check.finish("TextEdgeTest");
    }

    // ---- promises 1 to 5 ----

    private static void newObject() {
        HoopCabinet x = new HoopCabinet();
        Check.due("1: no BALL, so it is answered", x.crush(), -2);
        for (int what = 0; what <= 11; what++) {
            Check.due("1: count(" + what + ") of a new object", x.count(what), 0);
        }
        Twins.refused("1: ball() of a new object's tape finds nothing", HoopCabinet::new, HoopCabinet::ball, 0);
    }

    private static HoopCabinet fed(int times) {
        HoopCabinet x = new HoopCabinet();
        for (int i = 0; i < times; i++) {
            x.feed(0x20202020, 0x20202020, 0x20202020, 0x20202020, 0x20202020);
        }
        return x;
    }

    private static HoopCabinet fedTo(int n) {
        HoopCabinet x = fed(50);
        x.end(n);
        return x;
    }

    private static void feed() {
        Check.due("2: the first feed", new HoopCabinet().feed(0, 0, 0, 0, 0), 20);
        Check.due("2: the 50th feed, to 1,000", fed(49).feed(0, 0, 0, 0, 0), 1000);
        Check.due("2: from 980 to 1,000", fedTo(980).feed(0, 0, 0, 0, 0), 1000);
        Twins.refused("2: the 51st feed", () -> fed(50), x -> x.feed(1, 2, 3, 4, 5), -1);
        Twins.refused("2: from 981 to 1,001", () -> fedTo(981), x -> x.feed(1, 2, 3, 4, 5), -1);
        Twins.refused("2: from 999 to 1,019", () -> fedTo(999), x -> x.feed(1, 2, 3, 4, 5), -1);
        Twins.done("2: the feed at 980 is seen", () -> fedTo(980), x -> x.feed(1, 2, 3, 4, 5), 1000);
        HoopCabinet x = fedTo(981);
        x.feed(0x24242424, 0x24242424, 0x24242424, 0x24242424, 0x24242424);
        Check.due("2: none came: there are blanks alone", x.ball(), 0);
        // the highest byte first: place 3 has a byte that is no token, the places ahead are blanks
        HoopCabinet y = new HoopCabinet();
        y.feed(0x20202024, 0x20202020, 0x20202020, 0x20202020, 0x20202020);
        y.ball();
        Check.due("2: the lowest byte is the last of four", y.fault(1), 3);
        HoopCabinet z = new HoopCabinet();
        z.feed(0x20202020, 0x20202020, 0x20202020, 0x20202020, 0x80202020);
        z.ball();
        Check.due("2: a number below 0 has a highest byte of 128 or more", z.fault(1), 16);
    }

    private static void end() {
        Check.due("3: as many as it has", fedTo(20).end(20), 20);
        Check.due("3: one less", fedTo(20).end(19), 19);
        Check.due("3: none", fedTo(20).end(0), 0);
        Check.due("3: none of none", new HoopCabinet().end(0), 0);
        Check.due("3: all of 1,000", fedTo(1000).end(1000), 1000);
        Twins.refused("3: one more than it has", () -> fedTo(20), x -> x.end(21), -1);
        Twins.refused("3: one of none", HoopCabinet::new, x -> x.end(1), -1);
        Twins.refused("3: one more than 1,000", () -> fedTo(1000), x -> x.end(1001), -1);
        Twins.refused("3: below 0", () -> fedTo(20), x -> x.end(-1), -1);
        Twins.refused("3: far below 0", () -> fedTo(20), x -> x.end(Integer.MIN_VALUE), -1);
        Twins.refused("3: far above", () -> fedTo(20), x -> x.end(Integer.MAX_VALUE), -1);
        Twins.done("3: an end that is taken is seen", () -> fedTo(20), x -> x.end(19), 19);
        HoopCabinet x = fedTo(20);
        x.end(10);
        Check.due("3: what was cut off is gone", x.end(11), -1);
        HoopCabinet y = new HoopCabinet();
        Check.tape(y, HEAD + "$$$$$");
        y.end(HEAD.length());
        y.feed(0x20202020, 0x20202020, 0x20202020, 0x20202020, 0x20202020);
        Check.due("3: feed goes on behind the first n bytes", y.ball(), 1);
    }

    private static HoopCabinet busy() {
        HoopCabinet x = Check.told(Balls.ROW);
        x.image(2);
        x.bid(0, 1, 3);
        x.move(1, 2);
        Check.row(x, 1, 2, 1, 3, 1);
        return x;
    }

    private static HoopCabinet busyWith(String text) {
        HoopCabinet x = busy();
        Check.tape(x, text);
        return x;
    }

    private static void ball() {
        String[] nothing = {"", " ", "\n", " \n ", " ".repeat(1000)};
        for (String text : nothing) {
            HoopCabinet x = busyWith(text);
            Check.due("4: no LINES", x.ball(), 0);
            Check.due("4: there is none then", x.crush(), -2);
            for (int what = 0; what <= 10; what++) {
                Check.due("4: count(" + what + ") of none", x.count(what), 0);
            }
            Check.due("4: no ladies then", x.lady(0, 0), -2);
            Check.due("4: no acts then", x.count(8), 0);
            Check.due("4: nothing to undo then", x.undo(), -2);
            Check.due("4: an image stays", x.back(2), 0);
            Check.due("4: and has the old ball", x.count(9), 13);
            Check.due("4: a row stays", x.firsts(1), 3);
        }
        HoopCabinet x = busyWith(HEAD);
        Check.due("4: one LINE", x.ball(), 1);
        Check.due("4: nothing done", x.count(8), 0);
        Check.due("4: the tape is empty", x.count(10), 0);
        Check.due("4: and can't be cut", x.end(1), -1);
        Check.due("4: in place of another", x.count(5), 0);
        Check.due("4: no ladies are left over", x.at(0, 0), -2);
        Twins.done("4: is seen", () -> busyWith(HEAD), w -> w.ball(), 1);
        HoopCabinet y = busyWith(Balls.FULL);
        Check.due("4: as many LINES as there can be", y.ball(), 37);
        Check.due("4: LINES", y.count(9), 37);
        y.ball();
        for (int what = 0; what <= 10; what++) {
            Check.due("4: nothing of the fullest ball is left", y.count(what), 0);
        }
        HoopCabinet z = busyWith(HEAD + "\n".repeat(1000 - HEAD.length()));
        Check.due("4: a tape of 1,000 bytes", z.ball(), 1);
        Check.due("4: the tape's end is the text's", busyWith(" ".repeat(1000 - HEAD.length()) + HEAD).ball(), 1);
    }

    private static void ballRefused() {
        String[] faulty = {"$", "ball", HEAD + ";", HEAD + "lady in 3 wide 1;", LADY.repeat(2), HEAD + "lady in 0 wide 1"};
        for (String text : faulty) {
            HoopCabinet x = busyWith(text);
            Check.due("4: a FAULT", x.ball(), -4);
            Check.due("4: the tape stays", x.count(10), text.length());
            Check.due("4: the ball stays", x.count(9), 13);
            Check.due("4: acts stay", x.count(8), 2);
            Check.due("4: ladies stay", x.at(0, 5), 1);
            Check.due("4: ministers stay", x.minister(1, 0), 2);
            Check.due("4: rows stay", x.firsts(1), 3);
            // where the fault is has been asked once already, so that nothing at all may differ
            Twins.refused("4: a FAULT again", () -> {
                HoopCabinet y = busyWith(text);
                y.ball();
                return y;
            }, HoopCabinet::ball, -4);
        }
        HoopCabinet x = new HoopCabinet();
        Check.tape(x, "$");
        Check.due("4: a FAULT without a ball", x.ball(), -4);
        Check.due("4: there is none still", x.crush(), -2);
        x.end(0);
        x.feed(0x20202020, 0x20202020, 0x20202020, 0x20202020, 0x20202020);
        Check.due("4: the tape told anew", x.ball(), 0);
    }

    private static void fault() {
        HoopCabinet x = new HoopCabinet();
        Check.due("5: fault(0) ahead of any", x.fault(0), 0);
        Check.due("5: fault(1) ahead of any", x.fault(1), -1);
        others(x);
        Check.tape(x, "$");
        Check.due("5: fault(0) is of ball(), not of the tape", x.fault(0), 0);
        x.ball();
        Check.due("5: its FAULT", x.fault(0), 1);
        Check.due("5: its place, the least", x.fault(1), 0);
        others(x);
        x.image(0);
        x.back(0);
        Check.due("5: it stays behind back()", x.fault(0), 1);
        x.end(0);
        Check.due("5: it stays behind end()", x.fault(1), 0);
        x.ball();
        Check.due("5: fault(0) without", x.fault(0), 0);
        Check.due("5: fault(1) without", x.fault(1), -1);
        others(x);
        faulty(1, "ball" + " ".repeat(996) + "^");
        faulty(1, HEAD + " ".repeat(999 - HEAD.length()) + "^$");
        faulty(1, HEAD + " ".repeat(998 - HEAD.length()) + "^$$");
    }

    private static void others(HoopCabinet x) {
        for (int what : new int[] {-1, 2, -2, Integer.MIN_VALUE, Integer.MAX_VALUE}) {
            Check.due("5: fault(" + what + ")", x.fault(what), -1);
        }
    }

    // ---- Terms I: numbers at their ends ----

    /** The sign ^ in a text is not part of it: it stands ahead of the fault. */
    private static void faulty(int fault, String marked) {
        int place = marked.indexOf('^');
        HoopCabinet x = new HoopCabinet();
        Check.tape(x, marked.substring(0, place) + marked.substring(place + 1));
        Check.due("I: ball() of " + marked, x.ball(), -4);
        Check.due("I: fault(0) of " + marked, x.fault(0), fault);
        Check.due("I: fault(1) of " + marked, x.fault(1), place);
        Check.due("I: no ball of " + marked, x.count(9), 0);
    }

    private static HoopCabinet taken(String text, int lines) {
        HoopCabinet x = new HoopCabinet();
        Check.tape(x, text);
        Check.due("I: ball() of " + text, x.ball(), lines);
        Check.due("I: fault(0) of " + text, x.fault(0), 0);
        return x;
    }

    /** The number at the sign # of a text that has so many lines: both ends are taken, beyond them is fault 2 at its place. */
    private static void ends(String text, int low, int high, int lines, Twins.Call read) {
        for (String zeros : List.of("", "0", "000000000000000000000")) {
            Check.due("I: " + low + " in " + text, read.on(taken(text.replace("#", zeros + low), lines)), low);
            Check.due("I: " + high + " in " + text, read.on(taken(text.replace("#", zeros + high), lines)), high);
            faulty(2, text.replace("#", "^" + zeros + (high + 1)));
            if (low > 0) {
                faulty(2, text.replace("#", "^" + zeros + (low - 1)));
            }
        }
        // what would wrap around to the low end in 8, 16, 32 or 64 bits, and in many digits
        String[] wraps = {"256", "65536", "2147483648", "4294967296", "18446744073709551616", "9".repeat(200), "1" + "0".repeat(200)};
        for (String wrap : wraps) {
            faulty(2, text.replace("#", "^" + new java.math.BigInteger(wrap).add(java.math.BigInteger.valueOf(low))));
        }
        faulty(1, text.replace("#", "^-" + low));
        faulty(1, text.replace("#", "^+" + low));
        // none at all: what stands behind it is at fault
        faulty(1, text.replace("# ", "^").replace("#", "^"));
        faulty(1, text.replace("#", "^x"));
    }

    private static void numbersOfBall() {
        ends("ball rooms # dances 4 law 0 odds 5;", 1, 8, 1, x -> x.count(0));
        ends("ball rooms 3 dances # law 0 odds 5;", 1, 14, 1, x -> x.count(1));
        ends("ball rooms 3 dances 4 law # odds 5;", 0, 3, 1, x -> x.count(2));
        ends("ball rooms 3 dances 4 law 0 odds #;", 0, 10, 1, x -> x.count(3));
    }

    private static void numbersOfDoor() {
        ends(HEAD + "door # to 1 wide 1;", 0, 2, 2, x -> x.door(0, 0));
        ends(HEAD + "door 1 to # wide 1;", 0, 2, 2, x -> x.door(0, 1));
        ends(HEAD + "door 1 to 2 wide #;", 1, 9, 2, x -> x.door(0, 2));
        for (int room = 0; room < 3; room++) {
            faulty(2, HEAD + "door " + room + " to ^" + room + " wide 1;");
            faulty(2, HEAD + "door 00" + room + " to ^0" + room + " wide 1;");
        }
        faulty(2, HEAD + "door ^3 to 3 wide 1;");
        // with one room there are no two unlike ones
        faulty(2, "ball rooms 1 dances 1 law 0 odds 0;door 0 to ^0 wide 1;");
        faulty(2, "ball rooms 1 dances 1 law 0 odds 0;door 0 to ^1 wide 1;");
        faulty(2, "ball rooms 1 dances 1 law 0 odds 0;door ^1 to 0 wide 1;");
        HoopCabinet x = taken("ball rooms 8 dances 1 law 0 odds 0;door 7 to 0 wide 9;", 2);
        Check.due("I: the last of eight rooms", x.door(0, 0), 7);
        faulty(2, "ball rooms 8 dances 1 law 0 odds 0;door ^8 to 0 wide 9;");
        taken("ball rooms 2 dances 1 law 0 odds 0;door 0 to 1 wide 9;door 0 to 1 wide 9;door 1 to 0 wide 9;", 4);
    }

    private static void numbersOfLady() {
        ends(HEAD + "lady in # wide 1;", 0, 2, 2, x -> x.lady(0, 0));
        ends(HEAD + "lady in 0 wide #;", 1, 9, 2, x -> x.lady(0, 1));
        ends("ball rooms 8 dances 4 law 0 odds 5;lady in # wide 1;", 0, 7, 2, x -> x.lady(0, 0));
        ends("ball rooms 1 dances 4 law 0 odds 5;lady in # wide 1;", 0, 0, 2, x -> x.lady(0, 0));
    }

    private static void numbersOfMinister() {
        ends(LADY + "minister under # seats 1;", 0, 0, 3, x -> x.minister(0, 0));
        ends(LADY + "lady in 0 wide 1;".repeat(5) + "minister under # seats 1;", 0, 5, 8, x -> x.minister(0, 0));
        ends(LADY + "minister under 0 seats #;", 1, 20, 3, x -> x.minister(0, 1));
    }

    private static void numbersOfBid() {
        ends(LADY + "bid # to 0 at 0;", 0, 0, 3, x -> x.bidden(0, 0));
        ends(LADY + "lady in 0 wide 1;".repeat(5) + "bid # to 2 at 0;", 0, 5, 8, TextEdgeTest::whoIsBidden);
        ends(LADY + "bid 0 to # at 0;", 0, 2, 3, x -> x.bidden(0, 0));
        // the dance of a bid may be beyond the ball's own
        String one = "lady in 0 wide 1;bid 0 to 0 at #;";
        ends("ball rooms 1 dances 14 law 0 odds 0;" + one, 0, 13, 3, TextEdgeTest::whenBidden);
        Check.due("I: a bid beyond the dances", taken("ball rooms 1 dances 1 law 0 odds 0;" + one.replace("#", "13"), 3).bidden(0, 1), -1);
        faulty(2, "ball rooms 1 dances 1 law 0 odds 0;" + one.replace("#", "^14"));
    }

    private static int whoIsBidden(HoopCabinet x) {
        for (int lady = 0; lady < 6; lady++) {
            if (x.bidden(lady, 0) == 2) {
                return lady;
            }
        }
        return -1;
    }

    private static int whenBidden(HoopCabinet x) {
        int dance = 0;
        while (x.bidden(0, dance) == -1) {
            dance++;
        }
        return dance;
    }

    private static void toldAhead() {
        faulty(2, HEAD + "minister under ^0 seats 1;lady in 0 wide 1;");
        faulty(2, LADY + "minister under 0 seats 1;minister under ^1 seats 1;lady in 0 wide 1;");
        taken(LADY + "minister under 0 seats 1;lady in 0 wide 1;minister under 1 seats 1;", 5);
        faulty(2, HEAD + "bid ^0 to 0 at 0;lady in 0 wide 1;");
        faulty(2, LADY + "bid 0 to 0 at 0;bid ^1 to 0 at 0;lady in 0 wide 1;");
        taken(LADY + "bid 0 to 0 at 0;lady in 0 wide 1;bid 1 to 0 at 0;", 5);
    }

    // ---- Terms I: tables that are full, the first line ----

    private static void fullTables() {
        full(HEAD, "door 0 to 1 wide 1;", 12, 1, 4);
        full(HEAD, "lady in 0 wide 1;", 6, 1, 5);
        full(LADY, "minister under 0 seats 1;", 8, 2, 6);
        full(LADY, "bid 0 to 0 at 0;", 10, 2, 7);
        String all = HEAD + "door 0 to 1 wide 1;".repeat(12) + "lady in 0 wide 1;".repeat(6)
            + "minister under 0 seats 1;".repeat(8) + "bid 0 to 0 at 0;".repeat(10);
        taken(all, 37);
        for (String word : List.of("door", "lady", "minister", "bid")) {
            faulty(3, all + "^" + word + " 0");
        }
        faulty(1, all + "^ball");
        faulty(1, all + "^;");
    }

    private static void full(String ahead, String line, int most, int lines, int what) {
        String word = line.substring(0, line.indexOf(' '));
        String text = ahead + line.repeat(most);
        Check.due("I: so many of " + word, taken(text, lines + most).count(what), most);
        Check.due("I: one less of " + word, taken(ahead + line.repeat(most - 1), lines + most - 1).count(what), most - 1);
        faulty(3, text + "^" + line);
        faulty(3, text + "^" + word);
        faulty(3, text + "\n ^" + word + " ;");
        faulty(3, text + "^" + word + "99");
        faulty(1, text + "^" + word + "s");
        faulty(1, text + "^" + word.substring(1));
        // others may come still
        taken(text + (what == 5 ? "door 0 to 1 wide 1;" : "lady in 0 wide 1;"), lines + most + 1);
    }

    private static void ballFirst() {
        for (String word : List.of("door", "lady", "minister", "bid", "rooms", "a", "z", "balls", "bal")) {
            faulty(1, "^" + word + " 0 to 1 wide 1;");
        }
        faulty(1, HEAD + "^" + HEAD);
        faulty(1, LADY + "^" + HEAD);
        faulty(1, HEAD + "^ball");
    }

    // ---- Terms I: tokens ----

    /** Each byte by itself behind a line, and behind a number. */
    private static void bytes() {
        for (int sign = 0; sign < 256; sign++) {
            String one = Character.toString((char) sign);
            boolean blank = sign == 32 || sign == 10;
            if (blank) {
                taken(HEAD + one, 1);
                taken(LADY.replace(" ", one), 2);
                taken(LADY.replace(";", one + ";"), 2);
            } else {
                faulty(1, HEAD + "^" + one);
                faulty(1, "^" + one);
            }
            String line = HEAD + "lady in 0 wide 1";
            if (sign >= '0' && sign <= '9') {
                faulty(2, HEAD + "lady in 0 wide ^1" + one + ";");
            } else if (sign == ';') {
                faulty(1, line + ";^;");
            } else if (!blank) {
                faulty(1, line + "^" + one + ";");
            }
            if (!blank && !(sign >= 'a' && sign <= 'z')) {
                faulty(1, HEAD + "lady^" + one + "in 0 wide 1;");
            } else if (!blank) {
                faulty(1, HEAD + "^lady" + one + "in 0 wide 1;");
            }
        }
    }

    private static void longestTokens() {
        faulty(1, "^ballrooms 3 dances 4 law 0 odds 5;");
        faulty(1, "ball ^roomsx3 dances 4 law 0 odds 5;");
        taken("ball rooms3dances4law0odds5;", 1);
        taken("ball\nrooms3dances4law0odds5;lady in0wide1;door0to1wide1;bid0to0at0;minister under0seats1;", 5);
        faulty(1, "ball rooms 3 ^3 dances 4 law 0 odds 5;");
        faulty(2, "ball rooms ^33 dances 4 law 0 odds 5;");
        faulty(1, "ball rooms 3 dances 1 ^4 law 0 odds 5;");
        Check.due("I: 14 is one number", taken("ball rooms 3 dances 14 law 0 odds 5;", 1).count(1), 14);
        faulty(1, "^b all rooms 3 dances 4 law 0 odds 5;");
        faulty(1, "^" + "a".repeat(1000));
        faulty(2, "ball rooms ^" + "1".repeat(989));
        taken("ball rooms " + "0".repeat(900) + "8 dances 4 law 0 odds 5;", 1);
    }

    /** Each line cut off behind each of its tokens: the end can't stand there, at the tape's end, blanks too. */
    private static void cutOff() {
        String[] lines = {"door 0 to 1 wide 1 ;", "lady in 0 wide 1 ;", "minister under 0 seats 1 ;", "bid 0 to 0 at 0 ;"};
        cutOff("", HEAD.replace(";", " ;"));
        for (String line : lines) {
            cutOff(LADY, line);
        }
    }

    private static void cutOff(String ahead, String line) {
        String[] tokens = line.split(" ");
        StringBuilder text = new StringBuilder(ahead);
        for (int k = 0; k < tokens.length - 1; k++) {
            text.append(k == 0 ? "" : " ").append(tokens[k]);
            faulty(1, text + "^");
            faulty(1, text + " ^");
            faulty(1, text + "\n \n^");
            faulty(1, text + "^$");
            // another kind of token than the one that is due
            faulty(1, text + " ^" + (tokens[k + 1].matches("[0-9]+") ? "x" : "1"));
            faulty(1, text + " ^" + (tokens[k + 1].equals(";") ? "x" : ";"));
        }
    }

    /** Each word of each line with each of its letters another one, one less, one more: it can't stand there. */
    private static void words() {
        spoilt("", HEAD.replace(";", " ;"));
        for (String line : List.of("door 0 to 1 wide 1 ;", "lady in 0 wide 1 ;", "minister under 0 seats 1 ;", "bid 0 to 0 at 0 ;")) {
            spoilt(LADY, line);
        }
    }

    private static void spoilt(String ahead, String line) {
        String[] tokens = line.split(" ");
        for (int k = 0; k < tokens.length; k++) {
            for (int i = 0; i < tokens[k].length() && tokens[k].matches("[a-z]+"); i++) {
                String start = ahead + String.join(" ", List.of(tokens).subList(0, k)) + (k == 0 ? "" : " ") + "^";
                String end = " " + String.join(" ", List.of(tokens).subList(k + 1, tokens.length));
                String left = tokens[k].substring(0, i);
                String right = tokens[k].substring(i + 1);
                char sign = tokens[k].charAt(i);
                faulty(1, start + left + (char) (sign == 'z' ? 'a' : sign + 1) + right + end);
                faulty(1, start + left + (char) (sign == 'a' ? 'z' : sign - 1) + right + end);
                faulty(1, start + left + right + end);
                faulty(1, start + left + sign + sign + right + end);
                faulty(1, start + left + Character.toUpperCase(sign) + right + end);
            }
        }
    }

    private static void leastFault() {
        // the first by its place, whatever its number
        faulty(2, "ball rooms ^9 dances 15 law four");
        faulty(1, "ball rooms ^$ dances 15");
        faulty(2, HEAD + "lady in ^3 wide 1$");
        faulty(1, HEAD + "lady ^$ in 3 wide 1;");
        faulty(3, HEAD + "lady in 0 wide 1;".repeat(6) + "^lady in 9 wide $;");
        faulty(2, HEAD + "lady in 0 wide 1;".repeat(5) + "lady in 0 wide ^10;lady in 0 wide 1;");
        faulty(2, HEAD + "lady in 0 wide 1;".repeat(5) + "lady in 0 wide ^0");
        // of one place the least: a number out of any bounds where none can stand
        faulty(1, "^99");
        faulty(1, "ball ^99 3");
        faulty(1, HEAD + "^99");
        faulty(1, LADY + "lady in 0 wide 1 ^99;");
        faulty(1, HEAD + "lady in 0 ^99 1;");
    }

    // ---- promise 68, and the 512 calls ----

    private static void count() {
        HoopCabinet x = busyWith(Balls.FULL);
        int tape = Balls.FULL.length();
        Check.due("68: bytes of the tape", x.count(10), tape);
        x.ball();
        int[] want = {8, 14, 3, 10, 12, 6, 8, 10, 0, 37, 0, 1};
        for (int what = 0; what < want.length; what++) {
            Check.due("68: count(" + what + ")", x.count(what), want[what]);
        }
        for (int what : new int[] {-1, 12, -2, 13, Integer.MIN_VALUE, Integer.MAX_VALUE}) {
            Check.due("68: count(" + what + ")", x.count(what), -1);
        }
        for (int slot = 0; slot < 4; slot++) {
            x.row(slot, 0, 0);
        }
        Check.due("68: all SLOTS have a row, if of none", x.count(11), 4);
        for (int i = 0; i < 30; i++) {
            x.move(i % 8, 0);
        }
        Check.due("68: acts", x.count(8), 30);
        Check.due("68: BIDS are those told", x.count(7), 10);
        for (int i = 0; i < 50; i++) {
            x.feed(0, 0, 0, 0, 0);
        }
        Check.due("68: a full tape", x.count(10), 1000);
    }

    /** An object is used for at most 512 calls: the last of them are answered as the first ones. */
    private static void calls() {
        HoopCabinet x = new HoopCabinet();
        Check.tape(x, Balls.SMALL);
        // end, so many feeds, end
        int made = 2 + (Balls.SMALL.length() + 19) / 20;
        Check.due("ball", x.ball(), 2);
        for (made++; made < 510; made++) {
            Check.due("call " + made, x.crush(), 1);
        }
        Check.due("the 511th call", x.bid(0, 0, 0), 0);
        Check.due("the 512th call", x.undo(), 0);
    }
}
