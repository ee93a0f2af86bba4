/**
 * The boundary cases of Terms III, V and VI and of promises 28, 29 and 33 to 48, worked out by hand. Numbers that are none
 * such are asked in BoundsTest.
 */
public final class NoteEdgeTest {
    private static final String ONE_ROOM = "ball rooms 1 dances 1 law # odds 0;";

    public static void main(String[] args) {
        chain();
        chainTooShort();
        firstDance();
        lastOnes();
        fourteen();
        lawOne();
        lawTwo();
        lawThree();
        byLaws();
        leastGiver();
        nobodyElse();
        bestOnes();
        needed();
        carryAtOnce();
        carryLast();
        carryBack();
        carryWithoutHer();
        carryFromHelper();
        carryAsSheLikes();
        walkLeast();
        widen();
        shut();
        bars();
        seenLengths();
        seenNumbers();
        seenWidths();
        seenRefused();
        asked();
        Check.finish("NoteEdgeTest");
    }

    /** Six ladies in a row of six rooms: each goes to the next one a dance after she was come to. */
    private static String chainOf(int dances) {
        StringBuilder text = new StringBuilder("ball rooms 6 dances " + dances + " law 0 odds 0;");
        for (int i = 0; i < 5; i++) {
            text.append("door ").append(i).append(" to ").append(i + 1).append(" wide 1;");
        }
        for (int i = 0; i < 6; i++) {
            text.append("lady in ").append(i).append(" wide 1;");
        }
        for (int i = 0; i < 5; i++) {
            text.append("bid ").append(i).append(" to ").append(i + 1).append(" at ").append(i).append(";");
        }
        return text.toString();
    }

    private static void chain() {
        HoopCabinet x = Check.told(chainOf(5));
        for (int lady = 0; lady < 6; lady++) {
            Check.due("33: have(0, " + lady + ")", x.have(0, lady), (1 << lady + 1) - 1);
            Check.due("34: gets(0, " + lady + ")", x.gets(0, lady), lady);
            Check.due("35: from(0, " + lady + ")", x.from(0, lady), lady - 1);
            Check.due("29: hands(0, " + lady + ")", x.hands(0, lady), lady);
            Check.due("28: hears(" + lady + ")", x.hears(lady), lady == 5 ? 63 : (1 << lady + 2) - 1);
            Check.due("36: all(" + lady + ")", x.all(lady), lady < 2 ? 5 : -1);
            Check.due("38: lasts(" + lady + ")", x.lasts(lady), 5);
        }
        Check.due("34: to one whom nobody comes to any more", x.gets(2, 0), -1);
        Check.due("35: from nobody", x.from(2, 0), -1);
        Check.due("29: through no hands", x.hands(2, 0), -1);
        Check.due("33: the last one gives it back once", x.have(5, 5), 48);
        Check.due("33: but not a dance ahead", x.have(5, 4), 32);
        Check.due("39: all between", x.needed(0), 30);
        Check.due("37: the first of two with all six", x.best(), 0);
    }

    /** A dance less: the last one does not get it. */
    private static void chainTooShort() {
        HoopCabinet x = Check.told(chainOf(4));
        Check.due("34: at none", x.gets(0, 5), -1);
        Check.due("34: at the last dance", x.gets(0, 4), 4);
        Check.due("29: through none", x.hands(0, 5), -1);
        Check.due("36: not all", x.all(0), -1);
        Check.due("38: the last dance", x.lasts(0), 4);
        Check.due("28: she alone", x.hears(5), 32);
        Check.due("38: nobody gets it", x.lasts(5), -1);
        Check.due("39: those between", x.needed(0), 14);
    }

    /** At dance 0 the FIRST alone gives: who gets it then gives from dance 1 on. */
    private static void firstDance() {
        HoopCabinet x = Check.told("ball rooms 1 dances 1 law 0 odds 0;" + "lady in 0 wide 1;".repeat(3));
        for (int first = 0; first < 3; first++) {
            Check.due("33: all at once", x.have(first, 0), 7);
            Check.due("36: behind dance 0", x.all(first), 0);
            Check.due("38: the last one is dance 0", x.lasts(first), 0);
            for (int lady = 0; lady < 3; lady++) {
                Check.due("34: at dance 0", x.gets(first, lady), 0);
                Check.due("35: from the FIRST, not from one who just got it", x.from(first, lady), lady == first ? -1 : first);
                Check.due("29: one hand", x.hands(first, lady), lady == first ? 0 : 1);
            }
        }
        // lady 1 comes a dance later: of those who have it the least gives
        HoopCabinet y = Check.told("ball rooms 2 dances 1 law 0 odds 0;door 0 to 1 wide 1;lady in 0 wide 1;lady in 1 wide 1;lady in 0 wide 1;bid 1 to 0 at 0;");
        Check.due("35: the least of several", y.from(2, 1), 0);
        Check.due("29: through two hands", y.hands(2, 1), 2);
        Check.due("35: the FIRST if least", y.from(0, 1), 0);
        // ladies 0 and 1 come together: 0 has it just then, so that 2 gives it to both
        HoopCabinet z = Check.told("ball rooms 2 dances 1 law 0 odds 0;door 0 to 1 wide 1;lady in 0 wide 1;lady in 0 wide 1;lady in 1 wide 1;bid 0 to 1 at 0;bid 1 to 1 at 0;");
        Check.due("35: not from one who gets it then", z.from(2, 1), 2);
        Check.due("29: one hand", z.hands(2, 1), 1);
    }

    private static HoopCabinet oneRoom(int law, String rest) {
        return Check.told(ONE_ROOM.replace("#", Integer.toString(law)) + rest);
    }

    /** A minister with one seat is enough; one who moved away is not. */
    private static void lawOne() {
        HoopCabinet x = oneRoom(1, "lady in 0 wide 9;lady in 0 wide 1;lady in 0 wide 1;minister under 1 seats 1;");
        Check.due("III: law 1", x.have(0, 1), 3);
        Check.due("III: law 1 asks of the taker", x.have(1, 1), 2);
        x.move(0, 2);
        Check.due("III: law 1, as they are now", x.have(0, 1), 5);
        x.move(0, 0);
        Check.due("III: law 1, none under the others", x.have(0, 1), 1);
        x.anew();
        Check.due("III: law 1, taken back", x.have(0, 1), 3);
    }

    /** No wider than she: as wide is fine, one wider is not. */
    private static void lawTwo() {
        for (int wide = 1; wide <= 8; wide++) {
            HoopCabinet x = oneRoom(2, "lady in 0 wide " + wide + ";lady in 0 wide " + wide + ";lady in 0 wide " + (wide + 1) + ";");
            Check.due("III: law 2, to one as wide", x.gets(0, 1), 0);
            Check.due("III: law 2, to one wider by one", x.gets(0, 2), -1);
            Check.due("III: law 2, to narrower ones", x.have(2, 0), 7);
        }
    }

    /** Fewer seats than hers: as many are not fewer, and none are fewer than none. */
    private static void lawThree() {
        HoopCabinet x = oneRoom(3, "lady in 0 wide 1;lady in 0 wide 1;lady in 0 wide 1;lady in 0 wide 1;lady in 0 wide 1;"
            + "minister under 0 seats 5;minister under 1 seats 3;minister under 1 seats 2;minister under 2 seats 4;");
        Check.due("III: law 3, as many", x.gets(0, 1), -1);
        Check.due("III: law 3, as many together", x.gets(1, 0), -1);
        Check.due("III: law 3, one fewer", x.gets(0, 2), 0);
        Check.due("III: law 3, one more", x.gets(2, 0), -1);
        Check.due("III: law 3, none", x.gets(2, 3), 0);
        Check.due("III: law 3, none and none", x.gets(3, 4), -1);
        Check.due("III: law 3, all who have fewer", x.have(1, 1), 30);
        x.move(3, 4);
        Check.due("III: law 3, as they are now", x.have(4, 1), 28);
        HoopCabinet least = oneRoom(3, "lady in 0 wide 1;lady in 0 wide 1;minister under 0 seats 1;");
        Check.due("III: law 3, one seat and none", least.gets(0, 1), 0);
        Check.due("III: law 3, none and one seat", least.gets(1, 0), -1);
    }

    private static void byLaws() {
        HoopCabinet x = oneRoom(2, "lady in 0 wide 2;lady in 0 wide 3;lady in 0 wide 2;minister under 1 seats 1;");
        Check.due("40: law 0, the first", x.by(0, 0), 7);
        Check.due("40: law 1", x.by(0, 1), 3);
        Check.due("40: law 2", x.by(0, 2), 5);
        Check.due("40: law 3, the last", x.by(0, 3), 1);
        Check.due("40: law 3 from her with seats", x.by(1, 3), 7);
        Check.due("40: in place of the one told, which stays", x.count(2), 2);
        Check.due("40: the one told stays", x.have(0, 1), 5);
    }

    /** Two who have it come to a third at once; by law 2 one of them may not give it. */
    private static void leastGiver() {
        String text = "ball rooms 2 dances 1 law # odds 0;door 0 to 1 wide 9;lady in 0 wide 2;lady in 0 wide 4;lady in 1 wide 3;bid 0 to 1 at 0;bid 1 to 1 at 0;";
        HoopCabinet always = Check.told(text.replace("#", "0"));
        Check.due("35: the least of two", always.from(1, 2), 0);
        HoopCabinet narrow = Check.told(text.replace("#", "2"));
        Check.due("35: the least whom the law lets", narrow.from(1, 2), 1);
        Check.due("29: by from()", narrow.hands(1, 2), 1);
        Check.due("29: by from()", always.hands(1, 2), 2);
    }

    private static void nobodyElse() {
        HoopCabinet x = Check.told(Balls.SMALL);
        Check.due("28: she alone", x.hears(0), 1);
        Check.due("29: she is it", x.hands(0, 0), 0);
        Check.due("33: she alone", x.have(0, 1), 1);
        Check.due("34: she is FIRST", x.gets(0, 0), 0);
        Check.due("35: from nobody", x.from(0, 0), -1);
        Check.due("36: all of one", x.all(0), 0);
        Check.due("37: the only one", x.best(), 0);
        Check.due("38: nobody gets it", x.lasts(0), -1);
        Check.due("39: nobody is needed", x.needed(0), 0);
        Check.due("41: there is no other one", x.carry(0, 0, 0), -2);
        Check.due("40: she alone", x.by(0, 3), 1);
        HoopCabinet y = Check.told(Balls.BARE);
        Check.due("37: there are no LADIES", y.best(), -1);
        Check.row(y, 0, 0);
        Check.due("46: there are no LADIES", y.firsts(0), 0);
        Check.due("47: there are no LADIES", y.ask(0), -1);
        Check.due("48: there are no LADIES", y.leaves(0), 0);
    }

    private static void bestOnes() {
        String text = "ball rooms 3 dances 1 law 0 odds 0;lady in 0 wide 1;lady in 1 wide 1;lady in 2 wide 1;";
        Check.due("37: one each, the first", Check.told(text).best(), 0);
        Check.due("37: two in the last room", Check.told(text + "lady in 2 wide 1;").best(), 2);
        Check.due("37: two and two, the first", Check.told(text + "lady in 2 wide 1;lady in 1 wide 1;").best(), 1);
        Check.due("37: three, the last ones", Check.told(text + "lady in 2 wide 1;lady in 2 wide 1;").best(), 2);
    }

    /** One who would have it anyhow is not lost; the last taker is never needed; the FIRST is not named. */
    private static void needed() {
        HoopCabinet x = Check.told("ball rooms 2 dances 2 law 0 odds 0;door 0 to 1 wide 1;"
            + "lady in 0 wide 1;lady in 0 wide 1;lady in 1 wide 1;bid 1 to 1 at 0;");
        Check.due("39: she brings it", x.needed(0), 2);
        x.bid(0, 1, 1);
        Check.due("39: a dance later the FIRST does", x.needed(0), 0);
        Check.due("39: the FIRST is not named", x.needed(1), 0);
        Check.due("39: who has it from nobody needs nobody", x.needed(2), 0);
        HoopCabinet first = Check.told("ball rooms 2 dances 2 law 0 odds 0;door 0 to 1 wide 1;"
            + "lady in 0 wide 1;lady in 0 wide 1;lady in 1 wide 1;bid 0 to 1 at 0;");
        Check.due("39: the first lady, from another FIRST", first.needed(1), 1);
    }

    /** Lady 0 is come to at the last dance, after lady 1. */
    private static void lastOnes() {
        HoopCabinet x = Check.told("ball rooms 2 dances 3 law 0 odds 0;door 0 to 1 wide 1;lady in 1 wide 1;lady in 0 wide 1;lady in 0 wide 1;bid 2 to 1 at 2;");
        Check.due("38: the first lady is the last to get it", x.lasts(2), 3);
        Check.due("38: by another one's hands", x.lasts(1), 3);
        Check.due("36: all", x.all(2), 3);
        Check.due("33: a dance ahead", x.have(2, 2), 6);
        Check.due("38: from the one who is come to", x.lasts(0), 3);
    }

    /** At the last dance that there can be. */
    private static void fourteen() {
        HoopCabinet x = Check.told("ball rooms 2 dances 14 law 0 odds 0;door 0 to 1 wide 1;lady in 0 wide 1;lady in 1 wide 1;bid 0 to 1 at 13;");
        Check.due("34: at 14", x.gets(0, 1), 14);
        Check.due("33: behind 13", x.have(0, 13), 1);
        Check.due("33: behind 14", x.have(0, 14), 3);
        Check.due("33: behind 15", x.have(0, 15), -2);
        Check.due("36: behind 14", x.all(1), 14);
        Check.due("38: at 14", x.lasts(1), 14);
        Check.row(x, 0, 0, 1, 14, 1);
        seenAll("seen at 14", x, 0, 3, 0, 1);
        Check.row(x, 0, 0, 1, 13, 1);
        seenAll("seen at 13", x, 0, 2, -1, 1);
        Check.row(x, 0, 0, 1, 15, 1);
        seenAll("seen at 15", x, 0, -2, -2, -2);
    }

    // ---- carry and walk ----

    private static void walked(String what, HoopCabinet x, int first, int lady, int other, int... rooms) {
        for (int dance = 0; dance < rooms.length; dance++) {
            Check.due("42: " + what + ", dance " + dance, x.walk(first, lady, other, dance), rooms[dance]);
        }
        Check.due("42: " + what + ", behind the last dance", x.walk(first, lady, other, rooms.length), -2);
        Check.due("42: " + what + ", ahead of the first", x.walk(first, lady, other, -1), -2);
    }

    /** The FIRST gives at dance 0; who takes it at dance 0 gives at dance 1. */
    private static void carryAtOnce() {
        HoopCabinet x = Check.told("ball rooms 2 dances 1 law 0 odds 0;lady in 0 wide 1;lady in 0 wide 1;lady in 0 wide 1;lady in 1 wide 1;");
        Check.due("41: the FIRST, at once", x.carry(0, 0, 1), 0);
        walked("the FIRST", x, 0, 0, 1, 0, 0);
        Check.due("41: taken at 0, given at 1", x.carry(0, 1, 2), 1);
        Check.due("41: back to the FIRST", x.carry(0, 1, 0), 1);
        Check.due("41: to one who is elsewhere", x.carry(0, 1, 3), -1);
        walked("none", x, 0, 1, 3, -1, -1);
        Check.due("41: by one who is elsewhere", x.carry(0, 3, 1), -1);
        Check.due("41: the LADY is the other one", x.carry(0, 1, 1), -2);
        Check.due("41: and FIRST", x.carry(0, 0, 0), -2);
        Check.due("42: the LADY is the other one", x.walk(0, 1, 1, 0), -2);
    }

    /** Seven doors to go: seven dances are enough, six are not. */
    private static void carryLast() {
        String doors = "";
        for (int i = 0; i < 7; i++) {
            doors += "door " + i + " to " + (i + 1) + " wide 5;";
        }
        String ladies = "lady in 0 wide 5;lady in 7 wide 9;lady in 0 wide 6;";
        HoopCabinet seven = Check.told("ball rooms 8 dances 7 law 0 odds 0;" + doors + ladies);
        Check.due("41: at the last dance", seven.carry(0, 0, 1), 7);
        walked("to the last dance", seven, 0, 0, 1, 0, 1, 2, 3, 4, 5, 6, 7);
        Check.due("41: too wide by one", seven.carry(2, 2, 1), -1);
        HoopCabinet six = Check.told("ball rooms 8 dances 6 law 0 odds 0;" + doors + ladies);
        Check.due("41: a dance too late", six.carry(0, 0, 1), -1);
        walked("a dance too late", six, 0, 0, 1, -1, -1, -1, -1, -1, -1, -1);
        HoopCabinet all = Check.told("ball rooms 8 dances 14 law 0 odds 0;" + doors + "lady in 0 wide 1;lady in 7 wide 1;lady in 0 wide 1;");
        Check.due("41: there and back in fourteen", all.carry(1, 0, 2), 14);
        walked("there and back", all, 1, 0, 2, 0, 1, 2, 3, 4, 5, 6, 7, 6, 5, 4, 3, 2, 1, 0);
    }

    /** She has to fetch it: two dances are enough, one is not. */
    private static void carryBack() {
        String rest = "door 0 to 1 wide 1;lady in 1 wide 1;lady in 0 wide 1;lady in 0 wide 1;";
        HoopCabinet two = Check.told("ball rooms 2 dances 2 law 3 odds 10;" + rest);
        Check.due("41: fetched, law and music aside", two.carry(0, 1, 2), 2);
        walked("fetched", two, 0, 1, 2, 0, 1, 0);
        HoopCabinet one = Check.told("ball rooms 2 dances 1 law 3 odds 10;" + rest);
        Check.due("41: what she takes at the last dance is not given", one.carry(0, 1, 2), -1);
        HoopCabinet three = Check.told("ball rooms 2 dances 4 law 3 odds 10;" + rest);
        walked("behind that dance she stays", three, 0, 1, 2, 0, 1, 0, 0, 0);
    }

    /** In the chain lady 1 takes it at dance 1 and has four doors to go; without her nobody else gets it. */
    private static void carryWithoutHer() {
        HoopCabinet x = Check.told(chainOf(5));
        Check.due("41: by herself", x.carry(0, 1, 5), 5);
        walked("by herself", x, 0, 1, 5, 1, 1, 2, 3, 4, 5);
        Check.due("41: a dance too late", Check.told(chainOf(4)).carry(0, 1, 5), -1);
        // lady 3 could take it from 2, who has it from 1: at dance 2, in room 2; or she goes to meet 1, who has it from dance 1
        Check.due("41: from any who has it from an earlier dance", x.carry(0, 3, 5), 5);
        Check.due("41: as it passes without her: 2 has it not without 1", x.carry(0, 1, 2), 2);
    }

    /** Lady 1 has it from dance 0 and comes to room 1, where lady 2 takes it at dance 1, and gives it to 3 at dance 2. */
    private static void carryFromHelper() {
        String rest = "door 0 to 1 wide 1;lady in 0 wide 1;lady in 0 wide 1;lady in 1 wide 2;lady in 1 wide 1;bid 1 to 1 at 0;";
        HoopCabinet x = Check.told("ball rooms 2 dances 2 law 0 odds 0;" + rest);
        Check.due("41: from one who has it from dance 0", x.carry(0, 2, 3), 2);
        walked("she waits", x, 0, 2, 3, 1, 1, 1);
        HoopCabinet y = Check.told("ball rooms 2 dances 2 law 1 odds 0;" + rest);
        Check.due("41: by law 1 the other one has it not", y.carry(0, 2, 3), -1);
    }

    /** Bidden away she stays, if she likes: from where she was told, not from where she would be. */
    private static void carryAsSheLikes() {
        HoopCabinet x = Check.told("ball rooms 3 dances 2 law 0 odds 0;door 1 to 0 wide 1;door 1 to 2 wide 1;"
            + "lady in 1 wide 1;lady in 1 wide 1;lady in 1 wide 1;bid 0 to 0 at 0;bid 1 to 2 at 0;");
        Check.due("41: the FIRST meets her at once", x.carry(0, 0, 1), 0);
        walked("at once, in room 1", x, 0, 0, 1, 1, 1, 1);
        Check.due("41: from the FIRST, to one who stays", x.carry(0, 1, 2), 1);
        walked("she stays, too", x, 0, 1, 2, 1, 1, 1);
        Check.due("41: after her who goes", x.carry(2, 0, 1), 1);
        walked("goes with her", x, 2, 0, 1, 1, 2, 2);
        HoopCabinet apart = Check.told("ball rooms 3 dances 2 law 0 odds 0;door 1 to 0 wide 1;door 1 to 2 wide 1;"
            + "lady in 1 wide 1;lady in 0 wide 1;lady in 2 wide 1;bid 0 to 0 at 0;bid 1 to 1 at 0;");
        // told in 1 and 0: they would pass each other, so that she stays and is met
        Check.due("41: she is met where she stays", apart.carry(0, 0, 1), 1);
        walked("stays", apart, 0, 0, 1, 1, 1, 1);
        Check.due("41: one who has it comes to her", apart.carry(1, 0, 2), 2);
        walked("stays, then goes", apart, 1, 0, 2, 1, 1, 2);
    }

    /** The least row of rooms, not the shortest way first: she may wait in a lesser room. */
    private static void walkLeast() {
        HoopCabinet x = Check.told("ball rooms 4 dances 5 law 0 odds 0;door 1 to 0 wide 1;door 1 to 2 wide 1;door 2 to 3 wide 1;"
            + "lady in 1 wide 1;lady in 3 wide 1;bid 1 to 1 at 2;");
        // lady 1 is in 3 3 3 2 1 1: lady 0 (FIRST) can meet her in 3 at dance 2
        Check.due("41: soonest", x.carry(0, 0, 1), 2);
        walked("straight", x, 0, 0, 1, 1, 2, 3, 3, 3, 3);
        HoopCabinet y = Check.told("ball rooms 4 dances 5 law 0 odds 0;door 1 to 0 wide 1;door 1 to 2 wide 1;door 2 to 3 wide 1;"
            + "lady in 1 wide 1;lady in 3 wide 9;lady in 2 wide 1;bid 2 to 1 at 3;");
        // lady 2 is in 2 until dance 3, lady 0 gives to her at dance 1
        walked("at once", y, 0, 0, 2, 1, 2, 2, 2, 2, 2);
        HoopCabinet z = Check.told("ball rooms 3 dances 3 law 0 odds 0;door 2 to 0 wide 1;door 2 to 1 wide 1;door 1 to 0 wide 9;"
            + "lady in 2 wide 1;lady in 1 wide 2;lady in 1 wide 9;bid 1 to 0 at 1;");
        // lady 1 is in 1 1 0 0: lady 0 is FIRST and can give to her in 1 at dance 1
        walked("at the first meeting", z, 0, 0, 1, 2, 1, 1, 1);
        // lady 0 fetches it from 2 (in 1): she is there at dance 1, then goes to 0 (from dance 2 on lady 1 is there)
        walked("fetched and given", z, 2, 0, 1, 2, 1, 0, 0);
    }

    // ---- doors ----

    private static void widen() {
        for (int wide = 1; wide <= 9; wide++) {
            HoopCabinet x = Check.told("ball rooms 2 dances 1 law 0 odds 0;door 0 to 1 wide 9;lady in 0 wide " + wide + ";lady in 1 wide 9;bid 0 to 1 at 0;");
            Check.due("43: just as wide as she is", x.widen(0, 0), wide);
            Check.due("43: the door stays", x.door(0, 2), 9);
            Check.due("43: she goes as told", x.at(0, 1), 1);
        }
        HoopCabinet y = Check.told("ball rooms 2 dances 1 law 0 odds 0;door 0 to 1 wide 9;lady in 0 wide 5;lady in 0 wide 5;bid 0 to 1 at 0;");
        Check.due("43: the least of several", y.widen(0, 0), 1);
        HoopCabinet z = Check.told("ball rooms 2 dances 2 law 0 odds 0;door 0 to 1 wide 1;lady in 0 wide 5;lady in 0 wide 7;lady in 1 wide 1;lady in 1 wide 1;"
            + "bid 0 to 1 at 0;");
        Check.due("43: most, from another FIRST", z.widen(1, 0), 5);
        Check.due("43: most have it, if she goes to them", z.widen(2, 0), 5);
        HoopCabinet last = Check.told(Balls.FULL);
        Check.due("43: by the last door, law 3: she has no fewer", last.widen(4, 11), 1);
    }

    private static void shut() {
        HoopCabinet x = Check.told("ball rooms 2 dances 1 law 0 odds 0;door 0 to 1 wide 1;lady in 0 wide 1;lady in 1 wide 1;bid 0 to 1 at 0;");
        Check.due("44: the only door", x.shut(0, 0), 1);
        Check.due("44: the door is there still", x.have(0, 1), 3);
        HoopCabinet y = Check.told("ball rooms 2 dances 1 law 0 odds 0;door 0 to 1 wide 1;door 1 to 0 wide 1;lady in 0 wide 1;lady in 1 wide 1;bid 0 to 1 at 0;");
        Check.due("44: one of two doors", y.shut(0, 0), 3);
        Check.due("44: the other one of two", y.shut(0, 1), 3);
        Check.due("44: all have it at once", Check.told("ball rooms 2 dances 1 law 0 odds 0;door 0 to 1 wide 1;lady in 1 wide 1;lady in 1 wide 1;").shut(0, 0), 3);
    }

    private static void bars() {
        for (int wide = 1; wide <= 9; wide++) {
            HoopCabinet x = Check.told("ball rooms 4 dances 1 law 0 odds 0;door 0 to 1 wide 1;door 2 to 1 wide 9;lady in 3 wide " + wide + ";");
            Check.due("45: the same room", x.bars(0, 0, 0), 1);
            Check.due("45: the same room without doors", x.bars(0, 3, 3), 1);
            Check.due("45: through doors as wide as she is", x.bars(0, 0, 2), wide);
            Check.due("45: both ways", x.bars(0, 1, 0), wide);
            Check.due("45: by none", x.bars(0, 0, 3), -1);
            Check.due("45: by none", x.bars(0, 3, 2), -1);
            Check.due("45: the doors stay", x.door(0, 2), 1);
        }
    }

    // ---- who was first ----

    private static HoopCabinet seen(int width, long... numbers) {
        HoopCabinet x = Check.told(Balls.ROW);
        Check.row(x, 2, width, numbers);
        return x;
    }

    private static void seenAll(String what, HoopCabinet x, int slot, int firsts, int ask, int leaves) {
        Check.due("46: " + what, x.firsts(slot), firsts);
        Check.due("47: " + what, x.ask(slot), ask);
        Check.due("48: " + what, x.leaves(slot), leaves);
    }

    /** Three each: rows of 0 to 60 numbers, all of them "lady 0 had it at dance 5". */
    private static void seenLengths() {
        for (int n = 0; n <= 60; n++) {
            long[] numbers = new long[n];
            for (int i = 0; i < n; i++) {
                numbers[i] = i % 3 == 0 ? 0 : i % 3 == 1 ? 5 : 1;
            }
            HoopCabinet x = seen(n % 4, numbers);
            if (n % 3 != 0) {
                seenAll(n + " numbers", x, 2, -2, -2, -2);
            } else if (n == 0) {
                seenAll("no numbers: nothing was seen", x, 2, 7, 0, 1);
            } else {
                seenAll(n + " numbers", x, 2, 3, 0, 1);
            }
        }
    }

    /** Each number at its ends, as the first, one in the middle and the last of twenty. */
    private static void seenNumbers() {
        int[] lows = {0, 0, 0};
        int[] highs = {2, 5, 1};
        for (int three = 0; three < 20; three += three == 0 ? 9 : 10) {
            for (int k = 0; k < 3; k++) {
                for (int number : new int[] {lows[k], highs[k]}) {
                    HoopCabinet x = full(three * 3 + k, number);
                    Check.right("46: number " + k + " is " + number, x.firsts(1) >= 0);
                    Check.right("48: number " + k + " is " + number, x.leaves(1) >= 0);
                }
                for (int number : new int[] {lows[k] - 1, highs[k] + 1, Byte.MIN_VALUE, Byte.MAX_VALUE}) {
                    seenAll("number " + k + " is " + number, full(three * 3 + k, number), 1, -2, -2, -2);
                }
            }
        }
        seenAll("had it at the last dance", seen(0, 1, 5, 1), 2, 3, 0, 1);
        seenAll("had it not at the last dance", seen(0, 1, 5, 0), 2, 4, -1, 1);
        seenAll("had it at dance 0: she was FIRST", seen(0, 2, 0, 1), 2, 4, -1, 1);
        seenAll("had it just then", seen(0, 1, 3, 1), 2, 3, 0, 1);
        seenAll("had it a dance ahead", seen(0, 1, 2, 1), 2, 2, -1, 1);
        HoopCabinet atOnce = Check.told(Balls.STAR);
        Check.row(atOnce, 0, 0, 2, 0, 1);
        seenAll("got it at dance 0", atOnce, 0, 6, -1, 2);
        Check.row(atOnce, 0, 0, 2, 0, 0);
        seenAll("had it not at dance 0", atOnce, 0, 9, 0, 1);
        seenAll("had it and had it not", seen(0, 1, 3, 1, 1, 3, 0), 2, 0, -1, 0);
    }

    private static HoopCabinet full(int place, long number) {
        HoopCabinet x = Check.told(Balls.ROW);
        x.row(1, 0, 60);
        x.write(1, place, number);
        return x;
    }

    /** What is cut off is not asked; what is kept is. */
    private static void seenWidths() {
        for (int width = 0; width < 4; width++) {
            for (int bits = 8; bits < 64; bits *= 2) {
                boolean cut = 8 << width <= bits;
                HoopCabinet x = seen(width, 1L << bits, 5, 1);
                Check.due("46: width " + width + ", 2 to the " + bits, x.firsts(2), cut ? 3 : -2);
                HoopCabinet y = seen(width, 0, 5 + (1L << bits), 1);
                Check.due("46: width " + width + ", a dance beyond " + bits, y.firsts(2), cut ? 3 : -2);
            }
            Check.due("46: the greatest number", seen(width, 0, 5, Long.MAX_VALUE).firsts(2), -2);
            Check.due("46: the least number", seen(width, Long.MIN_VALUE, 5, 1).firsts(2), width < 3 ? 3 : -2);
        }
    }

    /** -2 is asked ahead of -6; that a number is none such, last. */
    private static void seenRefused() {
        HoopCabinet none = new HoopCabinet();
        seenAll("no ball, nothing", none, 0, -2, -2, -2);
        Check.row(none, 0, 0, 0, 0, 1);
        seenAll("no ball, a row", none, 0, -2, -2, -2);
        HoopCabinet x = Check.told(Balls.ROW);
        for (int slot = 0; slot < 4; slot++) {
            seenAll("nothing", x, slot, -6, -6, -6);
        }
        for (int slot : new int[] {-1, 4, Integer.MIN_VALUE, Integer.MAX_VALUE}) {
            seenAll("no such slot", x, slot, -2, -2, -2);
        }
        Check.row(x, 3, 0, 2, 5, 1);
        seenAll("the last slot", x, 3, 4, -1, 1);
        Check.tape(x, "ball rooms 1 dances 4 law 0 odds 0;lady in 0 wide 1;");
        x.ball();
        seenAll("another ball: no such lady, dance", x, 3, -2, -2, -2);
        Check.row(x, 3, 0, 0, 4, 1);
        seenAll("another ball", x, 3, 1, -1, 1);
        Twins.refused("46 to 48: asking changes nothing", () -> seen(0, 1, 3, 1), y -> y.firsts(2) + y.ask(2) + y.leaves(2), 4);
    }

    /** Of six who never meet: to ask one leaves five at worst; of six who all meet at once none helps. */
    private static void asked() {
        HoopCabinet apart = Check.told("ball rooms 6 dances 1 law 0 odds 0;lady in 0 wide 1;lady in 1 wide 1;lady in 2 wide 1;lady in 3 wide 1;lady in 4 wide 1;lady in 5 wide 1;");
        Check.row(apart, 0, 0);
        seenAll("six who never meet", apart, 0, 63, 0, 5);
        HoopCabinet together = Check.told("ball rooms 1 dances 1 law 0 odds 0;" + "lady in 0 wide 1;".repeat(6));
        Check.row(together, 0, 0);
        seenAll("six who meet at once: none, as now", together, 0, 63, -1, 6);
        HoopCabinet chain = Check.told(chainOf(5));
        Check.row(chain, 0, 0);
        // lady 5 gets it at dance 5 from anybody, but is FIRST herself; lady 0 at 0, 1 or never; lady 2 at 0, 2, 2, 3, or never
        seenAll("the chain: who tells most apart", chain, 0, 63, 2, 2);
        Check.row(chain, 0, 0, 5, 4, 1);
        seenAll("one is left", chain, 0, 32, -1, 1);
    }
}
