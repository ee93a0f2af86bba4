/** Promises 30 to 32 and 49 to 56: seats, majorities, powers. */
public final class HouseTest {
    public static void main(String[] args) {
        row();
        moved();
        wrong();
        half();
        bare();
        Check.finish("HouseTest");
    }

    /** Seats 5, 8, 4: any two have more than half of 17. */
    private static void row() {
        HoopCabinet x = Check.told(Balls.ROW);
        int[] holds = {0, 0, 0, 1, 0, 1, 1, 1};
        for (int set = 0; set < 8; set++) {
            Check.due("holds(" + set + ")", x.holds(set), holds[set]);
            Check.due("blocks(" + set + ")", x.blocks(set), 1 - holds[7 - set]);
        }
        for (int lady = 0; lady < 3; lady++) {
            Check.due("power(" + lady + ")", x.power(lady), 2);
            Check.due("under(" + lady + ")", x.under(lady), 1 << lady);
        }
        Check.due("seats(1)", x.seats(1), 8);
        Check.due("dummies()", x.dummies(), 0);
        Check.due("strongest()", x.strongest(), 0);
        Check.due("part(0, 0)", x.part(0, 0), 5);
        Check.due("part(0, 1)", x.part(0, 1), 17);
        Check.due("cabinet()", x.cabinet(), 3);
        Check.due("cabinets()", x.cabinets(), 3);
        Check.due("kingmaker()", x.kingmaker(), 0);
    }

    private static void moved() {
        HoopCabinet x = Check.told(Balls.ROW);
        x.move(1, 0);
        Check.due("seats(0)", x.seats(0), 13);
        Check.due("under(0)", x.under(0), 3);
        Check.due("under(1)", x.under(1), 0);
        Check.due("power(0)", x.power(0), 4);
        Check.due("dummies()", x.dummies(), 6);
        Check.due("strongest()", x.strongest(), 0);
        Check.due("part(1, 0)", x.part(1, 0), 0);
        Check.due("part(1, 1)", x.part(1, 1), 1);
        Check.due("cabinet()", x.cabinet(), 1);
        Check.due("cabinets()", x.cabinets(), 1);
        x.move(0, 2);
        x.move(1, 2);
        Check.due("part(2, 0)", x.part(2, 0), 1);
        Check.due("part(2, 1)", x.part(2, 1), 1);
        Check.due("cabinet()", x.cabinet(), 4);
        Check.due("strongest()", x.strongest(), 2);
    }

    private static void wrong() {
        HoopCabinet x = Check.told(Balls.ROW);
        Check.due("holds(8)", x.holds(8), -2);
        Check.due("holds(-1)", x.holds(-1), -2);
        Check.due("blocks(8)", x.blocks(8), -2);
        Check.due("power(3)", x.power(3), -2);
        Check.due("seats(3)", x.seats(3), -2);
        Check.due("under(-1)", x.under(-1), -2);
        Check.due("part(3, 0)", x.part(3, 0), -2);
        Check.due("part(0, 2)", x.part(0, 2), -2);
        Check.due("part(0, -1)", x.part(0, -1), -2);
        HoopCabinet none = new HoopCabinet();
        Check.due("blocks(0) without a ball", none.blocks(0), -2);
        Check.due("holds(0) without a ball", none.holds(0), -2);
        Check.due("cabinet() without a ball", none.cabinet(), -2);
        Check.due("cabinets() without a ball", none.cabinets(), -2);
        Check.due("kingmaker() without a ball", none.kingmaker(), -2);
        Check.due("dummies() without a ball", none.dummies(), -2);
        Check.due("strongest() without a ball", none.strongest(), -2);
    }

    /** Seats 6, 3, 3, 0 of 12: half is not more than half. */
    private static void half() {
        HoopCabinet x = Check.told("ball rooms 1 dances 1 law 0 odds 0;lady in 0 wide 1;lady in 0 wide 1;lady in 0 wide 1;lady in 0 wide 1;"
            + "minister under 1 seats 3;minister under 0 seats 2;minister under 0 seats 4;minister under 2 seats 3;");
        Check.due("holds half", x.holds(1), 0);
        Check.due("holds half", x.holds(6), 0);
        Check.due("half blocks", x.blocks(1), 1);
        Check.due("power of half", x.power(0), 6);
        Check.due("power of a quarter", x.power(1), 2);
        Check.due("dummies", x.dummies(), 8);
        Check.due("cabinet", x.cabinet(), 3);
        Check.due("cabinets", x.cabinets(), 2);
        Check.due("kingmaker", x.kingmaker(), 0);
        Check.due("part above", x.part(1, 0), 1);
        Check.due("part below", x.part(1, 1), 4);
        HoopCabinet y = Check.told("ball rooms 1 dances 1 law 0 odds 0;" + "lady in 0 wide 1;".repeat(6)
            + "minister under 0 seats 2;minister under 1 seats 2;minister under 2 seats 2;minister under 3 seats 4;minister under 4 seats 5;");
        Check.due("the first who brings enough", y.kingmaker(), 3);
        HoopCabinet z = Check.told("ball rooms 1 dances 1 law 0 odds 0;" + "lady in 0 wide 1;".repeat(4)
            + "minister under 0 seats 1;minister under 1 seats 1;minister under 2 seats 1;minister under 3 seats 1;");
        Check.due("no kingmaker", z.kingmaker(), -1);
        Check.due("the least of fewest", z.cabinet(), 7);
    }

    private static void bare() {
        HoopCabinet x = Check.told(Balls.STAR);
        Check.due("holds without ministers", x.holds(15), 0);
        Check.due("blocks without ministers", x.blocks(0), 1);
        Check.due("part without ministers", x.part(0, 0), -1);
        Check.due("part of nobody ahead of none", x.part(4, 0), -2);
        Check.due("cabinet without ministers", x.cabinet(), -1);
        Check.due("cabinets without ministers", x.cabinets(), 0);
        Check.due("kingmaker without ministers", x.kingmaker(), -1);
        Check.due("dummies without ministers", x.dummies(), 15);
        Check.due("strongest without ministers", x.strongest(), -1);
        HoopCabinet y = Check.told(Balls.BARE);
        Check.due("holds(0) of nobody", y.holds(0), 0);
        Check.due("holds(1) of nobody", y.holds(1), -2);
        Check.due("dummies of nobody", y.dummies(), 0);
        Check.due("strongest of nobody", y.strongest(), -1);
        HoopCabinet z = Check.told("ball rooms 1 dances 1 law 0 odds 0;lady in 0 wide 1;minister under 0 seats 3;");
        Check.due("no other lady", z.kingmaker(), -1);
    }
}
