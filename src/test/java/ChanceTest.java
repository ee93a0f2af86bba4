/** Promises 57 to 60, 65 and 66: two who stay or go, music too loud, balls drawn. */
public final class ChanceTest {
    public static void main(String[] args) {
        game();
        fractions();
        draws();
        Check.finish("ChanceTest");
    }

    private static void game() {
        HoopCabinet x = Check.told(Balls.ROW);
        Check.due("gains(0, 1, 0, 0)", x.gains(0, 1, 0, 0), -1);
        Check.due("gains(0, 1, 1, 0)", x.gains(0, 1, 1, 0), 2);
        Check.due("gains(0, 1, 0, 1)", x.gains(0, 1, 0, 1), -1);
        Check.due("gains(0, 1, 1, 1)", x.gains(0, 1, 1, 1), 2);
        Check.due("gains(1, 0, 0, 0)", x.gains(1, 0, 0, 0), 2);
        Check.due("gains(1, 0, 0, 1)", x.gains(1, 0, 0, 1), 0);
        Check.due("gains(0, 2, 1, 1)", x.gains(0, 2, 1, 1), 0);
        Check.due("gains(2, 0, 0, 1)", x.gains(2, 0, 0, 1), 0);
        Check.due("rests(0, 1)", x.rests(0, 1), 10);
        Check.due("rests(1, 0)", x.rests(1, 0), 12);
        Check.due("gains leaves all as it is", x.at(0, 3), 3);
        Check.due("gains(0, 0, 0, 0)", x.gains(0, 0, 0, 0), -1000);
        Check.due("gains(0, 3, 0, 0)", x.gains(0, 3, 0, 0), -1000);
        Check.due("gains(0, 1, 2, 0)", x.gains(0, 1, 2, 0), -1000);
        Check.due("gains(0, 1, 0, -1)", x.gains(0, 1, 0, -1), -1000);
        Check.due("rests(0, 0)", x.rests(0, 0), -2);
        Check.due("rests(0, 3)", x.rests(0, 3), -2);
        // each would go to the other one: if both do they miss each other
        HoopCabinet y = Check.told("ball rooms 2 dances 1 law 0 odds 0;door 0 to 1 wide 1;lady in 0 wide 1;lady in 1 wide 1;bid 0 to 1 at 0;bid 1 to 0 at 0;");
        Check.due("both go", y.gains(0, 1, 0, 0), -1);
        Check.due("one goes", y.gains(0, 1, 0, 1), 1);
        Check.due("the other one goes", y.gains(0, 1, 1, 0), 2);
        Check.due("nobody goes", y.gains(0, 1, 1, 1), 0);
        Check.due("one of the two goes", y.rests(0, 1), 6);
    }

    private static void chance(HoopCabinet x, int first, int lady, int dance, long above, long below) {
        String call = "chance(" + first + ", " + lady + ", " + dance + ")";
        Check.due(call + " above", x.chance(first, lady, dance, 0), above);
        Check.due(call + " below", x.chance(first, lady, dance, 1), below);
    }

    private static void fractions() {
        HoopCabinet x = Check.told(Balls.ROW);
        chance(x, 0, 0, 0, 1, 1);
        chance(x, 0, 1, 2, 0, 1);
        chance(x, 0, 1, 3, 7, 10);
        chance(x, 0, 1, 4, 91, 100);
        chance(x, 0, 1, 5, 973, 1000);
        chance(x, 0, 2, 5, 0, 1);
        chance(x, 0, 1, 6, -2, -2);
        chance(x, 0, 3, 0, -2, -2);
        chance(x, 3, 0, 0, -2, -2);
        Check.due("chance, another what", x.chance(0, 0, 0, 2), -2);
        Check.due("mean(0, 2) above", x.mean(0, 2, 0), 1);
        Check.due("mean(0, 2) below", x.mean(0, 2, 1), 1);
        Check.due("mean(0, 3) above", x.mean(0, 3, 0), 17);
        Check.due("mean(0, 3) below", x.mean(0, 3, 1), 10);
        Check.due("mean(0, 6)", x.mean(0, 6, 0), -2);
        Check.due("mean(3, 0)", x.mean(3, 0, 0), -2);
        Check.due("mean, another what", x.mean(0, 0, -1), -2);
        HoopCabinet y = Check.told("ball rooms 1 dances 14 law 0 odds 9;lady in 0 wide 1;lady in 0 wide 1;");
        chance(y, 0, 1, 0, 1, 10);
        chance(y, 0, 1, 8, 612579511, 1000000000);
        Check.due("mean(0, 8) above", y.mean(0, 8, 0), 1612579511L);
        Check.due("mean(0, 8) below", y.mean(0, 8, 1), 1000000000L);
        chance(y, 0, 1, 9, -2, -2);
        Check.due("mean(0, 9)", y.mean(0, 9, 0), -2);
        HoopCabinet star = Check.told(Balls.STAR);
        // 1 gets it at dance 1 alone, 2 from her at dance 2, or at 3 from 0, 3 from 2 at dance 4
        chance(star, 0, 1, 4, 1, 2);
        chance(star, 0, 2, 2, 1, 4);
        chance(star, 0, 2, 3, 5, 8);
        chance(star, 0, 3, 4, 5, 16);
        HoopCabinet loud = Check.told("ball rooms 1 dances 2 law 0 odds 10;lady in 0 wide 1;lady in 0 wide 1;");
        chance(loud, 0, 1, 2, 0, 1);
        chance(loud, 0, 0, 2, 1, 1);
        HoopCabinet calm = Check.told("ball rooms 1 dances 2 law 0 odds 0;lady in 0 wide 1;lady in 0 wide 1;");
        chance(calm, 0, 1, 0, 1, 1);
        Check.due("mean of calm", calm.mean(0, 0, 0), 2);
    }

    /** The draws were worked out apart: of seed 15 they are 8 3 4 0 1 2. */
    private static void draws() {
        HoopCabinet x = Check.told(Balls.ROW);
        Check.due("drawn(0, 0, 0)", x.drawn(0, 0, 0), 1);
        Check.due("drawn(11, 0, 0)", x.drawn(11, 0, 0), 53);
        Check.due("drawn(15, 0, 0)", x.drawn(15, 0, 0), 56);
        Check.due("drawn(2000000000, 0, 0)", x.drawn(2000000000, 0, 0), 36);
        Check.due("drawn(11, 0, 1)", x.drawn(11, 0, 1), 3);
        Check.due("drawn(15, 0, 1)", x.drawn(15, 0, 1), 1);
        Check.due("drawn(15, 1, 1)", x.drawn(15, 1, 1), 2);
        Check.due("drawn(-1, 0, 0)", x.drawn(-1, 0, 0), -2);
        Check.due("drawn(2000000001, 0, 0)", x.drawn(2000000001, 0, 0), -2);
        Check.due("drawn(0, 3, 0)", x.drawn(0, 3, 0), -2);
        Check.due("drawn(0, 0, 2)", x.drawn(0, 0, 2), -2);
        Check.due("luck(0, 20, 0, 1)", x.luck(0, 20, 0, 1), 19);
        Check.due("luck(15, 1, 0, 1)", x.luck(15, 1, 0, 1), 0);
        Check.due("luck(15, 2, 0, 1)", x.luck(15, 2, 0, 1), 1);
        Check.due("luck(0, 20, 0, 0)", x.luck(0, 20, 0, 0), 20);
        Check.due("luck(0, 20, 0, 2)", x.luck(0, 20, 0, 2), 0);
        Check.due("luck(0, 0, 0, 0)", x.luck(0, 0, 0, 0), -2);
        Check.due("luck(0, 21, 0, 0)", x.luck(0, 21, 0, 0), -2);
        Check.due("luck(-1, 1, 0, 0)", x.luck(-1, 1, 0, 0), -2);
        Check.due("luck(2000000000, 20, 0, 0)", x.luck(2000000000, 20, 0, 0), 20);
        Check.due("luck(2000000001, 1, 0, 0)", x.luck(2000000001, 1, 0, 0), -2);
        Check.due("luck of nobody", x.luck(0, 1, 3, 0), -2);
        Check.due("luck for nobody", x.luck(0, 1, 0, 3), -2);
    }
}
