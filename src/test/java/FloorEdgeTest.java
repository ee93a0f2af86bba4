/**
 * The boundary cases of Terms II and of promises 6 to 27, worked out by hand: none, the least, the most, the first of
 * several, the last dance. Numbers that are none such are asked in BoundsTest.
 */
public final class FloorEdgeTest {
    private static final String LADY = "lady in 0 wide 1;";

    public static void main(String[] args) {
        told();
        widths();
        ways();
        bidden();
        lastBids();
        staying();
        leastRoom();
        places();
        meetings();
        crowds();
        habits();
        waits();
        mates();
        nobody();
        oneAlone();
        Check.finish("FloorEdgeTest");
    }

    private static void told() {
        HoopCabinet x = Check.told(Balls.FULL);
        Check.due("6: the last door's first room", x.door(11, 0), 7);
        Check.due("6: the last door's other room", x.door(11, 1), 3);
        Check.due("6: the last door's wide", x.door(11, 2), 8);
        Check.due("7: the last lady's room", x.lady(5, 0), 7);
        Check.due("7: the last lady's wide", x.lady(5, 1), 9);
        Check.due("8: over the last minister", x.minister(7, 0), 5);
        Check.due("8: the last minister's seats", x.minister(7, 1), 20);
        x.move(7, 0);
        Check.due("8: under whom he is now", x.minister(7, 0), 0);
        x.bid(5, 0, 0);
        Check.due("7: her room as told", x.lady(5, 0), 7);
    }

    /** Doors no less wide than she is: as wide will do, one less will not. */
    private static void widths() {
        for (int wide = 1; wide <= 9; wide++) {
            HoopCabinet x = Check.told("ball rooms 2 dances 1 law 0 odds 0;door 0 to 1 wide " + wide + ";lady in 0 wide " + wide
                + ";lady in 0 wide " + Math.min(9, wide + 1) + ";lady in 1 wide " + wide + ";bid 0 to 1 at 0;bid 1 to 1 at 0;bid 2 to 0 at 0;");
            Check.due("II: as wide as the door", x.at(0, 1), 1);
            Check.due("II: wider by one", x.at(1, 1), wide == 9 ? 1 : 0);
            Check.due("II: both ways", x.at(2, 1), 0);
            Check.due("9: as wide as the door", x.way(0, 0, 1), 1);
            Check.due("9: wider by one", x.way(1, 0, 1), wide == 9 ? 1 : -1);
            Check.due("10: as wide as the door", x.reach(0, 1), 3);
            Check.due("10: wider by one", x.reach(1, 1), wide == 9 ? 3 : 2);
        }
        HoopCabinet two = Check.told("ball rooms 2 dances 1 law 0 odds 0;door 0 to 1 wide 4;door 1 to 0 wide 5;lady in 0 wide 5;lady in 0 wide 6;");
        Check.due("II: the wider one of two doors", two.way(0, 0, 1), 1);
        Check.due("II: too wide for both", two.way(1, 0, 1), -1);
    }

    private static void ways() {
        HoopCabinet x = Check.told(Balls.LONG);
        Check.due("9: the longest way", x.way(0, 0, 7), 7);
        Check.due("9: and back", x.way(0, 7, 0), 7);
        Check.due("9: from the last room to itself", x.way(1, 7, 7), 0);
        Check.due("9: no way", x.way(1, 0, 7), -1);
        Check.due("9: no way by one", x.way(1, 0, 1), -1);
        Check.due("10: all eight", x.reach(0, 7), 255);
        Check.due("10: it alone", x.reach(1, 7), 128);
        Check.due("22: the longest", x.apart(0, 3, 0), 7);
        Check.due("22: no way for her", x.apart(1, 0, 1), -1);
        Check.due("22: but for the other one", x.apart(0, 1, 1), 1);
        Check.due("22: in one room without any way", x.apart(1, 0, 0), 0);
        Check.due("22: she herself", x.apart(1, 1, 14), 0);
        Check.due("22: at the last dance", x.apart(0, 1, 14), 7);
        HoopCabinet full = Check.told(Balls.FULL);
        Check.due("9: a narrow lady has a short way", full.way(0, 0, 7), 1);
        Check.due("9: a wide one a long way", full.way(5, 0, 7), 7);
    }

    /** at no greater than n, the greatest of these, of several the last told. */
    private static void bidden() {
        HoopCabinet x = Check.told("ball rooms 5 dances 5 law 0 odds 0;" + LADY + LADY
            + "bid 0 to 1 at 2;bid 0 to 2 at 2;bid 0 to 3 at 4;bid 0 to 4 at 3;bid 1 to 4 at 0;bid 0 to 2 at 4;");
        int[] want = {-1, -1, 2, 4, 2, 2};
        for (int dance = 0; dance < want.length; dance++) {
            Check.due("11: bidden(0, " + dance + ")", x.bidden(0, dance), want[dance]);
            Check.due("11: the other one's bid", x.bidden(1, dance), 4);
        }
        x.bid(0, 0, 2);
        Check.due("11: an act is told last", x.bidden(0, 2), 0);
        Check.due("11: but an earlier at gives way", x.bidden(0, 3), 4);
        x.bid(0, 1, 2);
        Check.due("11: of several acts the last", x.bidden(0, 2), 1);
        x.undo();
        Check.due("11: taken back", x.bidden(0, 2), 0);
        Check.due("11: never bidden", Check.told(Balls.LONG).bidden(2, 14), -1);
        Check.due("11: bidden where she is", Check.told(Balls.SMALL + "bid 0 to 0 at 1;").bidden(0, 1), 0);
    }

    /** A bid at 13 in balls of 14, 13 and 12 dances. */
    private static void lastBids() {
        for (int dances = 12; dances <= 14; dances++) {
            HoopCabinet x = Check.told("ball rooms 2 dances " + dances + " law 0 odds 0;door 0 to 1 wide 9;lady in 0 wide 9;bid 0 to 1 at 13;");
            int goes = dances == 14 ? 1 : 0;
            Check.due("11: at 12, one ahead", x.bidden(0, 12), -1);
            Check.due("11: at the last dance", x.bidden(0, dances), dances < 13 ? -1 : 1);
            Check.due("12: at the last dance", x.at(0, dances), goes);
            Check.due("12: one ahead of it", x.at(0, dances - 1), 0);
            Check.due("14: doors", x.steps(0), goes);
            Check.due("15: rooms, the one of the last dance, too", x.sees(0), goes == 1 ? 3 : 1);
            Check.due("25: the last dance elsewhere", x.late(0), goes == 1 ? 14 : -1);
            Check.due("26: nothing to wait for", x.waits(0), 0);
        }
    }

    /** Without a bid, without a way, and where she is bidden. */
    private static void staying() {
        HoopCabinet x = Check.told("ball rooms 3 dances 3 law 0 odds 0;door 0 to 1 wide 1;" + LADY + LADY + LADY
            + "bid 0 to 1 at 2;bid 1 to 2 at 0;bid 2 to 0 at 0;");
        int[][] want = {{0, 0, 0, 1}, {0, 0, 0, 0}, {0, 0, 0, 0}};
        for (int lady = 0; lady < 3; lady++) {
            for (int dance = 0; dance <= 3; dance++) {
                Check.due("II: at(" + lady + ", " + dance + ")", x.at(lady, dance), want[lady][dance]);
            }
        }
        HoopCabinet y = Check.told("ball rooms 2 dances 4 law 0 odds 0;door 0 to 1 wide 1;" + LADY + "bid 0 to 1 at 0;bid 0 to 0 at 1;bid 0 to 1 at 2;bid 0 to 0 at 3;");
        Check.due("14: there and back each dance", y.steps(0), 4);
        Check.due("12: in the end", y.at(0, 4), 0);
    }

    /** Of ways of fewest doors the least room; a longer way by a lesser room is none of these. */
    private static void leastRoom() {
        String doors = "door 7 to 6 wide 9;door 6 to 5 wide 9;door 7 to 3 wide 9;door 3 to 5 wide 9;door 7 to 0 wide 9;door 0 to 1 wide 9;door 1 to 5 wide 9;door 7 to 4 wide 1;door 4 to 5 wide 1;";
        HoopCabinet x = Check.told("ball rooms 8 dances 3 law 0 odds 0;" + doors + "lady in 7 wide 2;lady in 5 wide 2;lady in 7 wide 1;"
            + "bid 0 to 5 at 0;bid 1 to 7 at 0;bid 2 to 4 at 0;");
        Check.due("II: the least of 3 and 6, not 0", x.at(0, 1), 3);
        Check.due("II: there", x.at(0, 2), 5);
        Check.due("II: stays there", x.at(0, 3), 5);
        Check.due("II: on the way back, too", x.at(1, 1), 3);
        Check.due("II: one door", x.at(2, 1), 4);
        HoopCabinet two = Check.told("ball rooms 3 dances 2 law 0 odds 0;door 2 to 0 wide 1;door 2 to 0 wide 1;door 0 to 1 wide 1;door 2 to 1 wide 1;lady in 2 wide 1;bid 0 to 1 at 0;");
        Check.due("II: straight, not by a lesser room", two.at(0, 1), 1);
    }

    /** Of LONG: lady 0 is in dance's room up to 7, lady 3 in 7 .. 0 .. 7. */
    private static void places() {
        HoopCabinet x = Check.told(Balls.LONG);
        for (int dance = 0; dance <= 14; dance++) {
            Check.due("12: lady 0 at " + dance, x.at(0, dance), Math.min(dance, 7));
            Check.due("12: lady 1 at " + dance, x.at(1, dance), 0);
            Check.due("12: lady 2 at " + dance, x.at(2, dance), 7);
            Check.due("12: lady 3 at " + dance, x.at(3, dance), Math.abs(7 - dance));
            Check.due("11: lady 3 is bidden", x.bidden(3, dance), dance < 7 ? 0 : 7);
        }
        int[] steps = {7, 0, 0, 14};
        int[] sees = {255, 1, 128, 255};
        int[] late = {7, -1, -1, 14};
        int[] likes = {7, 0, 7, 1};
        int[] waits = {0, 14, 0, 0};
        for (int lady = 0; lady < 4; lady++) {
            Check.due("14: steps(" + lady + ")", x.steps(lady), steps[lady]);
            Check.due("15: sees(" + lady + ")", x.sees(lady), sees[lady]);
            Check.due("25: late(" + lady + ")", x.late(lady), late[lady]);
            Check.due("21: likes(" + lady + ")", x.likes(lady), likes[lady]);
            Check.due("26: waits(" + lady + ")", x.waits(lady), waits[lady]);
        }
        Check.due("13: at the last dance", x.within(7, 14), 13);
        Check.due("13: at the first", x.within(0, 0), 3);
        Check.due("13: nobody", x.within(1, 14), 0);
    }

    private static void meetings() {
        HoopCabinet x = Check.told(Balls.LONG);
        int[][] meets = {{0, 0, 7, 14}, {0, 0, -1, 7}, {7, -1, 0, 0}, {14, 7, 0, 0}};
        int[][] often = {{15, 1, 8, 1}, {1, 15, 0, 1}, {8, 0, 15, 2}, {1, 1, 2, 15}};
        int[] friends = {14, 9, 9, 7};
        int[] mate = {2, 0, 0, 2};
        for (int lady = 0; lady < 4; lady++) {
            for (int other = 0; other < 4; other++) {
                Check.due("16: meets(" + lady + ", " + other + ")", x.meets(lady, other), meets[lady][other]);
                Check.due("17: often(" + lady + ", " + other + ")", x.often(lady, other), often[lady][other]);
            }
            Check.due("18: friends(" + lady + ")", x.friends(lady), friends[lady]);
            Check.due("27: mate(" + lady + ")", x.mate(lady), mate[lady]);
        }
    }

    private static void crowds() {
        HoopCabinet x = Check.told(Balls.LONG);
        Check.due("19: three at the last dance alone", x.crush(), 3);
        Check.due("20: the last dance", x.crushed(), 14);
        Check.due("23: nobody is alone", x.alone(0), 0);
        Check.due("23: all are", x.alone(1), 15);
        Check.due("23: one at the last dance", x.alone(14), 2);
        Check.due("24: at the first dance", x.empty(0), 126);
        Check.due("24: at the next", x.empty(1), 60);
        Check.due("24: at the last", x.empty(14), 126);
        HoopCabinet six = Check.told("ball rooms 1 dances 1 law 0 odds 0;" + LADY.repeat(6));
        Check.due("19: all six", six.crush(), 6);
        Check.due("20: from the first dance on", six.crushed(), 0);
        Check.due("13: all six", six.within(0, 1), 63);
        Check.due("18: five others", six.friends(5), 31);
        Check.due("23: nobody is alone", six.alone(1), 0);
        Check.due("24: no room is empty", six.empty(1), 0);
        HoopCabinet once = Check.told("ball rooms 2 dances 2 law 0 odds 0;door 0 to 1 wide 1;lady in 0 wide 1;lady in 0 wide 1;lady in 0 wide 1;bid 0 to 1 at 0;");
        Check.due("19: at dance 0 alone", once.crush(), 3);
        Check.due("20: at dance 0 alone", once.crushed(), 0);
        // two and two, then three: the first dance of three, not of two
        HoopCabinet later = Check.told("ball rooms 2 dances 3 law 0 odds 0;door 0 to 1 wide 1;lady in 0 wide 1;lady in 0 wide 1;lady in 1 wide 1;lady in 1 wide 1;bid 3 to 0 at 1;");
        Check.due("19: three", later.crush(), 3);
        Check.due("20: the first of several", later.crushed(), 2);
    }

    /** At as many dances in either room: the least room, wherever she was first. */
    private static void habits() {
        HoopCabinet x = Check.told("ball rooms 8 dances 3 law 0 odds 0;door 7 to 6 wide 1;lady in 7 wide 1;lady in 6 wide 1;bid 0 to 6 at 1;bid 1 to 7 at 1;");
        Check.due("21: two and two", x.likes(0), 6);
        Check.due("21: two and two", x.likes(1), 6);
        HoopCabinet y = Check.told("ball rooms 8 dances 2 law 0 odds 0;door 7 to 6 wide 1;lady in 7 wide 1;bid 0 to 6 at 1;");
        Check.due("21: two and one", y.likes(0), 7);
        Check.due("25: the last dance", y.late(0), 2);
        HoopCabinet even = Check.told("ball rooms 8 dances 1 law 0 odds 0;door 7 to 6 wide 1;lady in 7 wide 1;bid 0 to 6 at 0;");
        Check.due("21: one and one", even.likes(0), 6);
        HoopCabinet home = Check.told("ball rooms 2 dances 3 law 0 odds 0;door 0 to 1 wide 1;" + LADY + "bid 0 to 1 at 2;");
        Check.due("21: the first room, more often", home.likes(0), 0);
        HoopCabinet z = Check.told("ball rooms 2 dances 2 law 0 odds 0;door 0 to 1 wide 1;" + LADY + "bid 0 to 1 at 0;");
        Check.due("25: the first dance that there can be", z.late(0), 1);
    }

    /** Bidden to a room without doors: she waits from the bid's dance to the last but one. */
    private static void waits() {
        for (int when = 0; when <= 13; when++) {
            HoopCabinet x = Check.told("ball rooms 2 dances 13 law 0 odds 0;" + LADY + "bid 0 to 1 at " + when + ";");
            Check.due("26: bidden elsewhere at " + when, x.waits(0), 13 - when);
        }
        HoopCabinet there = Check.told("ball rooms 2 dances 13 law 0 odds 0;" + LADY + "bid 0 to 0 at 0;");
        Check.due("26: bidden where she is", there.waits(0), 0);
        Check.due("26: not bidden", Check.told("ball rooms 2 dances 13 law 0 odds 0;" + LADY).waits(0), 0);
        HoopCabinet back = Check.told("ball rooms 2 dances 5 law 0 odds 0;" + LADY + "bid 0 to 1 at 1;bid 0 to 0 at 3;");
        Check.due("26: until she is bidden back", back.waits(0), 2);
        HoopCabinet goes = Check.told("ball rooms 2 dances 5 law 0 odds 0;door 0 to 1 wide 1;" + LADY + "bid 0 to 1 at 0;");
        Check.due("26: there is a way", goes.waits(0), 0);
    }

    private static void mates() {
        HoopCabinet x = Check.told("ball rooms 2 dances 2 law 0 odds 0;door 0 to 1 wide 1;lady in 1 wide 1;" + LADY + LADY + LADY + "bid 2 to 1 at 1;");
        Check.due("27: nobody in all dances but the last, then one", x.mate(0), 2);
        Check.due("27: more often than the one ahead", x.mate(1), 3);
        Check.due("27: the first of several", x.mate(2), 1);
        HoopCabinet apart = Check.told("ball rooms 2 dances 2 law 0 odds 0;lady in 1 wide 1;" + LADY);
        Check.due("27: none", apart.mate(0), -1);
        Check.due("18: none", apart.friends(0), 0);
        Check.due("16: at none", apart.meets(0, 1), -1);
        Check.due("17: at none", apart.often(0, 1), 0);
        Check.due("23: both", apart.alone(2), 3);
        Check.due("19: one", apart.crush(), 1);
        Check.due("20: at once", apart.crushed(), 0);
    }

    /** Those that take no numbers. */
    private static void nobody() {
        Check.due("19: there is no BALL", new HoopCabinet().crush(), -2);
        Check.due("20: there is no BALL", new HoopCabinet().crushed(), -2);
        HoopCabinet x = Check.told("ball rooms 8 dances 14 law 0 odds 0;");
        Check.due("13: nobody", x.within(7, 14), 0);
        Check.due("19: nobody", x.crush(), 0);
        Check.due("20: nobody, at once", x.crushed(), 0);
        Check.due("23: nobody", x.alone(14), 0);
        Check.due("24: all rooms", x.empty(14), 255);
        Check.due("24: all rooms at once", x.empty(0), 255);
    }

    private static void oneAlone() {
        HoopCabinet x = Check.told(Balls.SMALL);
        Check.due("9: in one room", x.way(0, 0, 0), 0);
        Check.due("10: one room", x.reach(0, 0), 1);
        Check.due("12: the last dance", x.at(0, 1), 0);
        Check.due("15: one room", x.sees(0), 1);
        Check.due("16: with herself", x.meets(0, 0), 0);
        Check.due("17: with herself", x.often(0, 0), 2);
        Check.due("18: nobody", x.friends(0), 0);
        Check.due("21: one room", x.likes(0), 0);
        Check.due("23: alone", x.alone(1), 1);
        Check.due("24: no room", x.empty(1), 0);
        Check.due("25: at none", x.late(0), -1);
        Check.due("27: none", x.mate(0), -1);
    }
}
