/** Promises 9 to 27: where each lady goes, and whom she meets. */
public final class FloorTest {
    public static void main(String[] args) {
        ways();
        places();
        meetings();
        crowds();
        habits();
        leastRoom();
        bids();
        bare();
        Check.finish("FloorTest");
    }

    private static void ways() {
        HoopCabinet x = Check.told(Balls.ROW);
        Check.due("way(0, 0, 3)", x.way(0, 0, 3), 3);
        Check.due("way(0, 3, 0)", x.way(0, 3, 0), 3);
        Check.due("way(1, 0, 2)", x.way(1, 0, 2), 2);
        Check.due("way(1, 3, 0)", x.way(1, 3, 0), -1);
        Check.due("way(0, 2, 2)", x.way(0, 2, 2), 0);
        Check.due("way(3, 0, 0)", x.way(3, 0, 0), -2);
        Check.due("way(0, 4, 0)", x.way(0, 4, 0), -2);
        Check.due("way(0, 0, -1)", x.way(0, 0, -1), -2);
        Check.due("reach(0, 0)", x.reach(0, 0), 15);
        Check.due("reach(1, 0)", x.reach(1, 0), 7);
        Check.due("reach(1, 3)", x.reach(1, 3), 8);
        Check.due("reach(1, 4)", x.reach(1, 4), -2);
        Check.due("reach(-1, 0)", x.reach(-1, 0), -2);
        Check.due("apart(0, 1, 0)", x.apart(0, 1, 0), 3);
        Check.due("apart(1, 0, 0)", x.apart(1, 0, 0), -1);
        Check.due("apart(1, 0, 3)", x.apart(1, 0, 3), 0);
        Check.due("apart(0, 2, 3)", x.apart(0, 2, 3), 3);
        Check.due("apart(0, 0, 2)", x.apart(0, 0, 2), 0);
        Check.due("apart(0, 3, 2)", x.apart(0, 3, 2), -2);
        Check.due("apart(0, 1, 6)", x.apart(0, 1, 6), -2);
    }

    private static void places() {
        int[][] row = {{0, 1, 2, 3, 3, 3}, {3, 3, 3, 3, 3, 3}, {2, 2, 1, 0, 0, 0}};
        placed(Check.told(Balls.ROW), row);
        int[][] star = {{1, 0, 0, 0, 0}, {2, 0, 2, 2, 2}, {2, 2, 2, 0, 3}, {3, 3, 3, 3, 3}};
        placed(Check.told(Balls.STAR), star);
        HoopCabinet x = Check.told(Balls.ROW);
        Check.due("at(0, 6)", x.at(0, 6), -2);
        Check.due("at(0, -1)", x.at(0, -1), -2);
        Check.due("at(3, 0)", x.at(3, 0), -2);
        Check.due("within(3, 3)", x.within(3, 3), 3);
        Check.due("within(0, 3)", x.within(0, 3), 4);
        Check.due("within(1, 3)", x.within(1, 3), 0);
        Check.due("within(4, 0)", x.within(4, 0), -2);
        Check.due("within(0, 6)", x.within(0, 6), -2);
        Check.due("steps(0)", x.steps(0), 3);
        Check.due("steps(1)", x.steps(1), 0);
        Check.due("steps(2)", x.steps(2), 2);
        Check.due("steps(3)", x.steps(3), -2);
        Check.due("sees(0)", x.sees(0), 15);
        Check.due("sees(1)", x.sees(1), 8);
        Check.due("sees(2)", x.sees(2), 7);
        Check.due("sees(3)", x.sees(3), -2);
    }

    private static void placed(HoopCabinet x, int[][] want) {
        for (int lady = 0; lady < want.length; lady++) {
            for (int dance = 0; dance < want[lady].length; dance++) {
                Check.due("at(" + lady + ", " + dance + ")", x.at(lady, dance), want[lady][dance]);
            }
        }
    }

    private static void meetings() {
        HoopCabinet x = Check.told(Balls.ROW);
        Check.due("meets(0, 1)", x.meets(0, 1), 3);
        Check.due("meets(0, 2)", x.meets(0, 2), -1);
        Check.due("meets(0, 0)", x.meets(0, 0), 0);
        Check.due("meets(0, 3)", x.meets(0, 3), -2);
        Check.due("often(0, 1)", x.often(0, 1), 3);
        Check.due("often(1, 2)", x.often(1, 2), 0);
        Check.due("often(0, 0)", x.often(0, 0), 6);
        Check.due("often(3, 0)", x.often(3, 0), -2);
        Check.due("friends(0)", x.friends(0), 2);
        Check.due("friends(2)", x.friends(2), 0);
        Check.due("friends(3)", x.friends(3), -2);
        Check.due("mate(0)", x.mate(0), 1);
        Check.due("mate(2)", x.mate(2), -1);
        Check.due("mate(3)", x.mate(3), -2);
        HoopCabinet star = Check.told(Balls.STAR);
        Check.due("friends of 2 at the star", star.friends(2), 1 | 2 | 8);
        Check.due("often(1, 2) at the star", star.often(1, 2), 2);
        Check.due("mate of 2 at the star", star.mate(2), 1);
        Check.due("mate of 0 at the star, the first of two", star.mate(0), 1);
        Check.due("meets(1, 2) at the star", star.meets(1, 2), 0);
    }

    private static void crowds() {
        HoopCabinet x = Check.told(Balls.ROW);
        Check.due("crush()", x.crush(), 2);
        Check.due("crushed()", x.crushed(), 3);
        Check.due("crushed() of a star", Check.told(Balls.STAR).crushed(), 0);
        Check.due("alone(0)", x.alone(0), 7);
        Check.due("alone(3)", x.alone(3), 4);
        Check.due("alone(6)", x.alone(6), -2);
        Check.due("alone(-1)", x.alone(-1), -2);
        Check.due("empty(0)", x.empty(0), 2);
        Check.due("empty(3)", x.empty(3), 6);
        Check.due("empty(6)", x.empty(6), -2);
    }

    private static void habits() {
        HoopCabinet x = Check.told(Balls.ROW);
        Check.due("likes(0)", x.likes(0), 3);
        Check.due("likes(1)", x.likes(1), 3);
        Check.due("likes(2)", x.likes(2), 0);
        Check.due("likes(3)", x.likes(3), -2);
        Check.due("late(0)", x.late(0), 3);
        Check.due("late(1)", x.late(1), -1);
        Check.due("late(2)", x.late(2), 3);
        Check.due("late(3)", x.late(3), -2);
        Check.due("waits(0)", x.waits(0), 0);
        Check.due("waits(1)", x.waits(1), 5);
        Check.due("waits(2)", x.waits(2), 0);
        Check.due("waits(-1)", x.waits(-1), -2);
        HoopCabinet tie = Check.told("ball rooms 3 dances 3 law 0 odds 0;door 2 to 1 wide 1;lady in 2 wide 1;bid 0 to 1 at 1;");
        Check.due("likes, the least of several", tie.likes(0), 1);
    }

    /** Two ways of two doors from 0 to 3: by 1 or by 2. */
    private static void leastRoom() {
        HoopCabinet x = Check.told("ball rooms 4 dances 3 law 0 odds 0;door 0 to 2 wide 9;door 2 to 3 wide 9;"
            + "door 3 to 1 wide 4;door 1 to 0 wide 4;lady in 0 wide 4;lady in 0 wide 5;bid 0 to 3 at 0;bid 1 to 3 at 0;");
        Check.due("the least room", x.at(0, 1), 1);
        Check.due("the only room for a wide one", x.at(1, 1), 2);
        Check.due("there", x.at(0, 2), 3);
        Check.due("there and stays", x.at(1, 3), 3);
    }

    private static void bids() {
        HoopCabinet x = Check.told(Balls.ROW);
        Check.due("bidden(0, 0)", x.bidden(0, 0), 3);
        Check.due("bidden(2, 0)", x.bidden(2, 0), -1);
        Check.due("bidden(2, 1)", x.bidden(2, 1), 0);
        Check.due("bidden(2, 5)", x.bidden(2, 5), 0);
        Check.due("bidden(2, 6)", x.bidden(2, 6), -2);
        Check.due("bidden(3, 0)", x.bidden(3, 0), -2);
        HoopCabinet y = Check.told("ball rooms 3 dances 5 law 0 odds 0;lady in 0 wide 1;"
            + "bid 0 to 2 at 3;bid 0 to 1 at 1;bid 0 to 0 at 3;bid 0 to 2 at 1;bid 0 to 1 at 13;");
        int[] want = {-1, 2, 2, 0, 0, 0};
        for (int dance = 0; dance < want.length; dance++) {
            Check.due("bidden(0, " + dance + ")", y.bidden(0, dance), want[dance]);
        }
    }

    private static void bare() {
        HoopCabinet x = Check.told(Balls.BARE);
        Check.due("crush of nobody", x.crush(), 0);
        Check.due("crushed of nobody", x.crushed(), 0);
        Check.due("alone of nobody", x.alone(3), 0);
        Check.due("empty of nobody", x.empty(3), 3);
        Check.due("within of nobody", x.within(1, 0), 0);
        Check.due("at of nobody", x.at(0, 0), -2);
    }
}
