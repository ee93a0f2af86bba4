/**
 * The boundary cases of Terms IV, VII and VIII and of promises 30 to 32, 49 to 60, 65 and 66, worked out by hand. Numbers
 * that are none such are asked in BoundsTest.
 */
public final class HouseEdgeTest {
    private static final String HEAD = "ball rooms 1 dances 1 law 0 odds 0;";

    public static void main(String[] args) {
        half();
        noMinisters();
        noBall();
        nobody();
        oneHasAll();
        equals();
        sets();
        parts();
        kingmakers();
        oneTwice();
        game();
        gainEnds();
        chanceDances();
        chanceOdds();
        chanceTerms();
        draws();
        seeds();
        Check.finish("HouseEdgeTest");
    }

    /** A ball of one room; of each number one lady with a minister of so many seats, 0: with none. */
    private static HoopCabinet house(int... seats) {
        StringBuilder text = new StringBuilder(HEAD + "lady in 0 wide 1;".repeat(seats.length));
        for (int lady = 0; lady < seats.length; lady++) {
            if (seats[lady] > 0) {
                text.append("minister under ").append(lady).append(" seats ").append(seats[lady]).append(";");
            }
        }
        return Check.told(text.toString());
    }

    /** More than half: half of an even number is not enough, half of an odd one cut neither. */
    private static void half() {
        HoopCabinet even = house(5, 3, 2);
        Check.due("51: just half", even.holds(1), 0);
        Check.due("51: the other half", even.holds(6), 0);
        Check.due("51: half and more", even.holds(3), 1);
        Check.due("31: half blocks", even.blocks(1), 1);
        Check.due("31: the other half does, too", even.blocks(6), 1);
        Check.due("31: less than half does not", even.blocks(2), 0);
        HoopCabinet odd = house(5, 4, 2);
        Check.due("51: 5 of 11", odd.holds(1), 0);
        Check.due("51: 6 of 11", odd.holds(6), 1);
        Check.due("31: 5 of 11", odd.blocks(1), 0);
        Check.due("31: 6 of 11", odd.blocks(6), 1);
        HoopCabinet one = house(6, 5);
        Check.due("51: 6 of 11 alone", one.holds(1), 1);
        Check.due("51: 5 of 11 alone", one.holds(2), 0);
        Check.due("54: alone", one.cabinet(), 1);
        Check.due("30: who has 5 of 11", one.dummies(), 2);
    }

    /** Without seats nobody has more than half of them. */
    private static void noMinisters() {
        HoopCabinet x = house(0, 0);
        Check.due("51: none of none", x.holds(3), 0);
        Check.due("51: nobody", x.holds(0), 0);
        Check.due("31: nobody blocks all", x.blocks(0), 1);
        Check.due("52: no power", x.power(1), 0);
        Check.due("30: all are", x.dummies(), 3);
        Check.due("32: none", x.strongest(), -1);
        Check.due("49: none", x.seats(0), 0);
        Check.due("50: none", x.under(0), 0);
        Check.due("53: there are no MINISTERS", x.part(1, 0), -1);
        Check.due("53: there are no MINISTERS", x.part(1, 1), -1);
        Check.due("53: no such what, asked ahead", x.part(1, 2), -2);
        Check.due("53: no such lady, asked ahead", x.part(2, 0), -2);
        Check.due("54: none does", x.cabinet(), -1);
        Check.due("55: none", x.cabinets(), 0);
        Check.due("56: none", x.kingmaker(), -1);
    }

    private static void noBall() {
        HoopCabinet x = new HoopCabinet();
        Check.due("30: there is no BALL", x.dummies(), -2);
        Check.due("32: there is no BALL", x.strongest(), -2);
        Check.due("37: there is no BALL", x.best(), -2);
        Check.due("54: there is no BALL", x.cabinet(), -2);
        Check.due("55: there is no BALL", x.cabinets(), -2);
        Check.due("56: there is no BALL", x.kingmaker(), -2);
    }

    private static void nobody() {
        HoopCabinet x = Check.told(HEAD);
        Check.due("51: the set of nobody", x.holds(0), 0);
        Check.due("51: no such set", x.holds(1), -2);
        Check.due("31: the set of nobody", x.blocks(0), 1);
        Check.due("31: no such set", x.blocks(1), -2);
        Check.due("30: nobody", x.dummies(), 0);
        Check.due("32: none", x.strongest(), -1);
        Check.due("54: none does", x.cabinet(), -1);
        Check.due("55: none", x.cabinets(), 0);
        Check.due("56: none", x.kingmaker(), -1);
    }

    /** Eight ministers of twenty seats under the last of six. */
    private static void oneHasAll() {
        HoopCabinet x = Check.told(HEAD + "lady in 0 wide 1;".repeat(6) + "minister under 5 seats 20;".repeat(8));
        Check.due("49: all seats", x.seats(5), 160);
        Check.due("49: no seats", x.seats(0), 0);
        Check.due("50: all ministers", x.under(5), 255);
        Check.due("50: none", x.under(0), 0);
        Check.due("51: she alone", x.holds(32), 1);
        Check.due("51: all but she", x.holds(31), 0);
        Check.due("51: all", x.holds(63), 1);
        Check.due("31: she blocks", x.blocks(32), 1);
        Check.due("31: all block", x.blocks(63), 1);
        Check.due("31: all but she do not", x.blocks(31), 0);
        Check.due("52: in every set with her", x.power(5), 32);
        Check.due("52: in none", x.power(0), 0);
        Check.due("30: all but she", x.dummies(), 31);
        Check.due("32: the last", x.strongest(), 5);
        Check.due("53: all, above", x.part(5, 0), 1);
        Check.due("53: all, below", x.part(5, 1), 1);
        Check.due("53: none, above", x.part(0, 0), 0);
        Check.due("53: none, below", x.part(0, 1), 1);
        Check.due("54: she alone", x.cabinet(), 32);
        Check.due("55: one", x.cabinets(), 1);
        Check.due("56: 20 of 160 make nobody hold", x.kingmaker(), -1);
        for (int minister = 0; minister < 8; minister++) {
            x.move(minister, 4);
            Check.due("49: seats now", x.seats(4), 20 * (minister + 1));
            Check.due("50: ministers now", x.under(5), 255 & -2 << minister);
        }
    }

    /** Six ladies with a seat each: any four hold, and each is the same. */
    private static void equals() {
        HoopCabinet x = house(1, 1, 1, 1, 1, 1);
        Check.due("54: the least of fewest", x.cabinet(), 15);
        Check.due("55: four of six", x.cabinets(), 15);
        Check.due("52: one of four", x.power(5), 10);
        Check.due("32: the first of several", x.strongest(), 0);
        Check.due("30: none", x.dummies(), 0);
        HoopCabinet five = house(0, 1, 1, 1, 1, 1);
        Check.due("54: three of five", five.cabinet(), 14);
        Check.due("55: three of five", five.cabinets(), 10);
        Check.due("32: the first of several", five.strongest(), 1);
        Check.due("30: who has none", five.dummies(), 1);
        HoopCabinet last = house(1, 1, 1, 2, 2);
        Check.due("54: fewest ahead of least", last.cabinet(), 24);
        Check.due("32: the first of two", last.strongest(), 3);
        HoopCabinet alone = house(3);
        Check.due("32: above 0, if by one", alone.strongest(), 0);
        Check.due("52: by one", alone.power(0), 1);
        Check.due("54: by one", alone.cabinet(), 1);
        HoopCabinet two = house(1, 1, 2, 3);
        Check.due("54: two, the least of them", two.cabinet(), 9);
        HoopCabinet all = house(1, 1);
        Check.due("54: both", all.cabinet(), 3);
        Check.due("55: both", all.cabinets(), 1);
    }

    /** A set's bits: those of ladies alone. */
    private static void sets() {
        for (int ladies = 1; ladies <= 6; ladies++) {
            HoopCabinet x = Check.told(HEAD + "lady in 0 wide 1;".repeat(ladies) + "minister under 0 seats 1;");
            int all = (1 << ladies) - 1;
            Check.due("51: all", x.holds(all), 1);
            Check.due("51: all but one", x.holds(all - 1), 0);
            Check.due("51: one more than there are", x.holds(all + 1), -2);
            Check.due("51: all and one more", x.holds(2 * all + 1), -2);
            Check.due("31: all", x.blocks(all), 1);
            Check.due("31: none", x.blocks(0), 0);
            Check.due("31: one more than there are", x.blocks(all + 1), -2);
            for (int set : new int[] {-1, Integer.MIN_VALUE, Integer.MIN_VALUE + 1, Integer.MAX_VALUE, 1 << 30, 1 << 6}) {
                Check.due("51: no such set", x.holds(set), -2);
                Check.due("31: no such set", x.blocks(set), -2);
            }
        }
    }

    /** Of all seats, in lowest terms. */
    private static void parts() {
        HoopCabinet x = house(20, 10, 7, 3, 0);
        int[] above = {1, 1, 7, 3, 0};
        int[] below = {2, 4, 40, 40, 1};
        for (int lady = 0; lady < above.length; lady++) {
            Check.due("53: above of " + lady, x.part(lady, 0), above[lady]);
            Check.due("53: below of " + lady, x.part(lady, 1), below[lady]);
        }
    }

    /** Just half is not enough, one more is; she holds alone behind the move. */
    private static void kingmakers() {
        Check.due("56: 2 of 4 at best", house(1, 1, 1, 1).kingmaker(), -1);
        Check.due("56: 2 of 3", house(1, 1, 1).kingmaker(), 0);
        Check.due("56: 3 of 6 at best", house(2, 1, 1, 1, 1).kingmaker(), -1);
        Check.due("56: 4 of 7, he who has it moves as well", house(2, 2, 1, 1, 1).kingmaker(), 0);
        HoopCabinet last = Check.told(HEAD + "lady in 0 wide 1;".repeat(4) + "minister under 0 seats 1;".repeat(3)
            + "minister under 2 seats 1;minister under 3 seats 1;minister under 1 seats 3;");
        Check.due("56: the last one alone: any other brings 4 of 8", last.kingmaker(), 5);
        Check.due("56: there is no other lady", house(3).kingmaker(), -1);
        HoopCabinet own = Check.told(HEAD + "lady in 0 wide 1;lady in 0 wide 1;minister under 1 seats 5;minister under 0 seats 5;minister under 1 seats 1;");
        Check.due("56: moved, not where he is", own.kingmaker(), 0);
        HoopCabinet first = Check.told(HEAD + "lady in 0 wide 1;lady in 0 wide 1;lady in 0 wide 1;minister under 0 seats 1;minister under 0 seats 2;minister under 1 seats 2;minister under 2 seats 2;");
        Check.due("56: the first who brings enough", first.kingmaker(), 1);
        Check.due("56: any other lady", house(1, 0).kingmaker(), 0);
        Check.due("56: she holds behind the move, whoever held ahead of it", house(1, 6, 1).kingmaker(), 0);
    }

    // ---- two who stay or go ----

    private static void oneTwice() {
        HoopCabinet x = Check.told(Balls.FULL);
        for (int lady = 0; lady < 6; lady++) {
            Check.due("57: one twice", x.rests(lady, lady), -2);
            for (int pair = 0; pair < 4; pair++) {
                Check.due("58: one twice", x.gains(lady, lady, pair & 1, pair >> 1), -1000);
            }
        }
        HoopCabinet one = Check.told(Balls.SMALL);
        Check.due("57: there is no other one", one.rests(0, 0), -2);
        Check.due("57: there is no other one", one.rests(0, 1), -2);
        Check.due("58: there is no other one", one.gains(0, 1, 0, 0), -1000);
    }

    private static void game() {
        String doors = "ball rooms 2 dances 1 law 0 odds 0;door 0 to 1 wide 1;";
        HoopCabinet same = Check.told(doors + "lady in 0 wide 1;lady in 1 wide 1;");
        Check.due("57: neither is bidden, all is one", same.rests(0, 1), 15);
        HoopCabinet one = Check.told(doors + "lady in 0 wide 1;lady in 1 wide 1;bid 0 to 1 at 0;");
        Check.due("57: it is worth the door", one.rests(0, 1), 5);
        Check.due("57: the other way round", one.rests(1, 0), 3);
        HoopCabinet both = Check.told(doors + "lady in 0 wide 1;lady in 0 wide 1;bid 0 to 1 at 0;bid 1 to 1 at 0;");
        Check.due("57: they have met already", both.rests(0, 1), 8);
        // lady 0 would meet the other one, who would rather meet a third than be met: nobody rests where both go
        HoopCabinet away = Check.told("ball rooms 3 dances 1 law 0 odds 0;door 0 to 1 wide 1;door 1 to 2 wide 1;"
            + "lady in 0 wide 1;lady in 1 wide 1;lady in 2 wide 1;lady in 2 wide 1;bid 0 to 1 at 0;bid 1 to 2 at 0;");
        Check.due("58: she goes to nobody", away.gains(0, 1, 0, 0), -1);
        Check.due("58: she goes to her", away.gains(0, 1, 0, 1), 1);
        Check.due("58: the other one meets two", away.gains(1, 0, 0, 0), 3);
        Check.due("58: the other one is met", away.gains(1, 0, 1, 0), 2);
        Check.due("57: the first one stays", away.rests(0, 1), 2);
        Twins.refused("57: asking changes nothing", () -> Check.told(Balls.ROW), x -> x.rests(0, 1), 10);
        Twins.refused("58: asking changes nothing", () -> Check.told(Balls.ROW), x -> x.gains(0, 1, 1, 1), 2);
    }

    /** From fourteen doors for nobody to five met at no door. */
    private static void gainEnds() {
        HoopCabinet most = Check.told("ball rooms 8 dances 14 law 0 odds 0;door 0 to 1 wide 1;lady in 0 wide 1;lady in 7 wide 1;"
            + "bid 0 to 1 at 0;bid 0 to 0 at 1;bid 0 to 1 at 2;bid 0 to 0 at 3;bid 0 to 1 at 4;bid 0 to 0 at 5;bid 0 to 1 at 6;bid 0 to 0 at 7;bid 0 to 1 at 8;bid 0 to 0 at 9;");
        Check.due("58: ten doors for nobody", most.gains(0, 1, 0, 0), -10);
        most.bid(0, 1, 10);
        most.bid(0, 0, 11);
        most.bid(0, 1, 12);
        most.bid(0, 0, 13);
        Check.due("58: fourteen doors for nobody", most.gains(0, 1, 0, 1), -14);
        Check.due("58: she stays", most.gains(0, 1, 1, 0), 0);
        Check.due("57: she had better stay", most.rests(0, 1), 10);
        HoopCabinet all = Check.told(HEAD + "lady in 0 wide 1;".repeat(6));
        Check.due("58: five others", all.gains(5, 0, 0, 0), 10);
        Check.due("57: all is one", all.rests(5, 0), 15);
        // -1 is a gain as any other
        HoopCabinet x = Check.told("ball rooms 3 dances 1 law 0 odds 0;door 0 to 1 wide 1;lady in 0 wide 1;lady in 2 wide 1;bid 0 to 1 at 0;");
        Check.due("58: below 0", x.gains(0, 1, 0, 0), -1);
        x.bid(0, 2, 0);
        Check.due("58: no way: no door", x.gains(0, 1, 0, 0), 0);
    }

    // ---- music ----

    /** 0 .. 8, and no more than the ball has. */
    private static void chanceDances() {
        for (int dances = 1; dances <= 14; dances++) {
            HoopCabinet x = Check.told("ball rooms 1 dances " + dances + " law 0 odds 10;lady in 0 wide 1;");
            for (int dance = -1; dance <= 15; dance++) {
                int want = dance >= 0 && dance <= 8 && dance <= dances ? 1 : -2;
                for (int what = 0; what < 2; what++) {
                    Check.due("59: dance " + dance + " of " + dances, x.chance(0, 0, dance, what), want);
                    Check.due("60: dance " + dance + " of " + dances, x.mean(0, dance, what), want);
                }
            }
        }
    }

    /** Never too loud, always too loud, and what lies between, at the first dance. */
    private static void chanceOdds() {
        long[] above = {1, 9, 4, 7, 3, 1, 2, 3, 1, 1, 0};
        long[] below = {1, 10, 5, 10, 5, 2, 5, 10, 5, 10, 1};
        for (int odds = 0; odds <= 10; odds++) {
            HoopCabinet x = Check.told("ball rooms 1 dances 14 law 0 odds " + odds + ";lady in 0 wide 1;lady in 0 wide 1;");
            Check.due("59: odds " + odds + ", above", x.chance(0, 1, 0, 0), above[odds]);
            Check.due("59: odds " + odds + ", below", x.chance(0, 1, 0, 1), below[odds]);
            Check.due("60: odds " + odds + ", above", x.mean(0, 0, 0), above[odds] + below[odds]);
            Check.due("60: odds " + odds + ", below", x.mean(0, 0, 1), below[odds]);
            Check.due("59: the FIRST has it", x.chance(1, 1, 8, 0), 1);
            Check.due("59: the FIRST has it", x.chance(1, 1, 8, 1), 1);
            Check.due("65: odds " + odds, x.drawn(7, 0, 0) == 0 ? 1 : 0, odds == 0 ? 1 : 0);
        }
    }

    /** Nine dances of odds 9 and 1: the greatest numbers below; and six who have it by chance. */
    private static void chanceTerms() {
        HoopCabinet x = Check.told("ball rooms 1 dances 8 law 0 odds 1;" + "lady in 0 wide 1;".repeat(6));
        Check.due("59: all but one in 10 to the 9th, above", x.chance(0, 5, 8, 0), 999999999L);
        Check.due("59: below", x.chance(0, 5, 8, 1), 1000000000L);
        // 1 + 5 * 999,999,999 / 1,000,000,000 = 5,999,999,995 / 1,000,000,000, by 5
        Check.due("60: above", x.mean(0, 8, 0), 1199999999L);
        Check.due("60: below", x.mean(0, 8, 1), 200000000L);
        HoopCabinet y = Check.told("ball rooms 1 dances 8 law 0 odds 3;" + "lady in 0 wide 1;".repeat(4));
        // 1 + 3 * (1 - 0.3 to the 9th) = 4 - 3 * 19,683 / 10 to the 9th
        Check.due("60: a number that needs more than 32 bits", y.mean(0, 8, 0), 3999940951L);
        Check.due("60: below", y.mean(0, 8, 1), 1000000000L);
        HoopCabinet never = Check.told("ball rooms 2 dances 8 law 0 odds 3;lady in 0 wide 1;lady in 1 wide 1;");
        Check.due("59: 0 / 1, above", never.chance(0, 1, 8, 0), 0);
        Check.due("59: 0 / 1, below", never.chance(0, 1, 8, 1), 1);
        Check.due("60: 1 / 1, above", never.mean(0, 8, 0), 1);
        Check.due("60: 1 / 1, below", never.mean(0, 8, 1), 1);
    }

    /** A draw below odds is too loud; one that is odds is not. The draws of seed 15 are 8 3 4 0 1 2. */
    private static void draws() {
        int[] loud = {0, 8, 24, 56, 58, 62, 62, 62, 62, 63, 63};
        for (int odds = 0; odds <= 10; odds++) {
            HoopCabinet x = Check.told("ball rooms 1 dances 5 law 0 odds " + odds + ";lady in 0 wide 1;lady in 0 wide 1;");
            Check.due("65: odds " + odds, x.drawn(15, 0, 0), loud[odds]);
            Check.due("65: who has it, odds " + odds, x.drawn(15, 0, 1), odds < 9 ? 3 : 1);
            Check.due("66: odds " + odds, x.luck(15, 1, 0, 1), odds < 9 ? 1 : 0);
        }
        HoopCabinet always = Check.told("ball rooms 1 dances 14 law 0 odds 10;lady in 0 wide 1;lady in 0 wide 1;");
        Check.due("65: all fifteen dances", always.drawn(0, 0, 0), 32767);
        Check.due("65: the FIRST alone", always.drawn(0, 1, 1), 2);
        Check.due("66: in none", always.luck(0, 20, 0, 1), 0);
        Check.due("66: she is FIRST: in all", always.luck(0, 20, 1, 1), 20);
        HoopCabinet never = Check.told("ball rooms 1 dances 14 law 0 odds 0;lady in 0 wide 1;lady in 0 wide 1;");
        Check.due("65: no dance", never.drawn(2000000000, 0, 0), 0);
        Check.due("65: both", never.drawn(2000000000, 0, 1), 3);
        Check.due("66: in all", never.luck(2000000000, 20, 0, 1), 20);
        Check.due("66: in the one", never.luck(2000000000, 1, 0, 1), 1);
    }

    /** The first and the last seed, worked out by long hand: x wraps around at 2 to the 31st. */
    private static void seeds() {
        HoopCabinet x = Check.told("ball rooms 1 dances 14 law 0 odds 5;lady in 0 wide 1;lady in 0 wide 1;");
        for (int seed : new int[] {0, 1, 65535, 65536, 1999999999, 2000000000}) {
            Check.due("65: seed " + seed, x.drawn(seed, 0, 0), loudBy(seed));
        }
        // they are in one room at dance 0 alone: she has it if that is not too loud
        HoopCabinet once = Check.told("ball rooms 2 dances 14 law 0 odds 5;door 0 to 1 wide 1;lady in 0 wide 1;lady in 0 wide 1;bid 0 to 1 at 0;");
        for (int first : new int[] {0, 100, 65530, 2000000000}) {
            int lucky = 0;
            for (int n = 1; n <= 20; n++) {
                lucky += 1 - (loudBy(first + n - 1L) & 1);
                Check.due("66: " + n + " from seed " + first, once.luck(first, n, 0, 1), lucky);
            }
        }
        for (int n : new int[] {0, 21, -1, Integer.MIN_VALUE, Integer.MAX_VALUE}) {
            Check.due("66: n is " + n, x.luck(0, n, 0, 1), -2);
        }
        for (int seed : new int[] {-1, 2000000001, Integer.MIN_VALUE, Integer.MAX_VALUE}) {
            Check.due("65: seed " + seed, x.drawn(seed, 0, 0), -2);
            Check.due("65: seed " + seed, x.drawn(seed, 0, 1), -2);
            Check.due("66: seed " + seed, x.luck(seed, 1, 0, 1), -2);
        }
    }

    private static int loudBy(long seed) {
        java.math.BigInteger x = java.math.BigInteger.valueOf(seed);
        int found = 0;
        for (int dance = 0; dance <= 14; dance++) {
            x = x.multiply(java.math.BigInteger.valueOf(1103515245)).add(java.math.BigInteger.valueOf(12345))
                .mod(java.math.BigInteger.valueOf(2147483648L));
            found |= x.divide(java.math.BigInteger.valueOf(65536)).mod(java.math.BigInteger.TEN).intValue() < 5 ? 1 << dance : 0;
        }
        return found;
    }
}
