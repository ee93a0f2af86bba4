/** Promises 41 to 45: a lady who would carry a note, doors to be widened. */
public final class CarryTest {
    public static void main(String[] args) {
        carry();
        takenAndGivenBack();
        lawAside();
        wrong();
        doors();
        Check.finish("CarryTest");
    }

    private static void walked(HoopCabinet x, int first, int lady, int other, int soonest, int... rooms) {
        String call = "(" + first + ", " + lady + ", " + other + ")";
        Check.due("carry" + call, x.carry(first, lady, other), soonest);
        for (int dance = 0; dance < rooms.length; dance++) {
            Check.due("walk" + call + " at " + dance, x.walk(first, lady, other, dance), rooms[dance]);
        }
    }

    private static void carry() {
        HoopCabinet x = Check.told(Balls.ROW);
        walked(x, 0, 2, 1, 3, 2, 1, 2, 3, 3, 3);
        walked(x, 0, 0, 1, 3, 0, 1, 2, 3, 3, 3);
        walked(x, 2, 0, 1, 4, 0, 0, 1, 2, 3, 3);
        walked(x, 0, 1, 2, -1, -1, -1, -1, -1, -1, -1);
        // lady 0 meets 2, who goes to 0, at dance 2 in 1: she is first and gives it there
        walked(x, 0, 0, 2, 2, 0, 0, 1, 1, 1, 1);
    }

    /** Either may be first: she takes it from the other one, and gives it back a dance later. */
    private static void takenAndGivenBack() {
        HoopCabinet x = Check.told("ball rooms 2 dances 2 law 0 odds 0;door 0 to 1 wide 1;lady in 1 wide 1;lady in 1 wide 1;"
            + "lady in 0 wide 1;");
        walked(x, 0, 1, 0, 1, 1, 1, 1);
        walked(x, 0, 0, 1, 0, 1, 1, 1);
        walked(x, 1, 2, 0, 2, 0, 1, 1);
        walked(x, 2, 0, 1, 2, 1, 0, 1);
    }

    /** By law 1 nobody takes a note from anybody, but she who carries does, and the other one. */
    private static void lawAside() {
        HoopCabinet x = Check.told("ball rooms 1 dances 3 law 1 odds 0;lady in 0 wide 1;lady in 0 wide 1;lady in 0 wide 1;");
        walked(x, 0, 1, 2, 1, 0, 0, 0, 0);
        Check.due("as told nobody gets it", x.have(0, 3), 1);
    }

    private static void wrong() {
        HoopCabinet x = Check.told(Balls.ROW);
        Check.due("carry(0, 0, 0)", x.carry(0, 0, 0), -2);
        Check.due("carry(0, 3, 0)", x.carry(0, 3, 0), -2);
        Check.due("carry(3, 0, 1)", x.carry(3, 0, 1), -2);
        Check.due("carry(0, 0, -1)", x.carry(0, 0, -1), -2);
        Check.due("walk(0, 2, 1, 6)", x.walk(0, 2, 1, 6), -2);
        Check.due("walk(0, 1, 2, 6), though there is none", x.walk(0, 1, 2, 6), -2);
        Check.due("walk(0, 2, 1, -1)", x.walk(0, 2, 1, -1), -2);
        Check.due("walk(0, 1, 1, 0)", x.walk(0, 1, 1, 0), -2);
    }

    private static void doors() {
        HoopCabinet x = Check.told(Balls.ROW);
        Check.due("widen(0, 2)", x.widen(0, 2), 1);
        Check.due("widen(0, 0)", x.widen(0, 0), 1);
        Check.due("widen(3, 0)", x.widen(3, 0), -2);
        Check.due("widen(0, 3)", x.widen(0, 3), -2);
        Check.due("widen leaves the door", x.door(2, 2), 2);
        Check.due("widen leaves the ladies", x.at(0, 3), 3);
        Check.due("shut(0, 2)", x.shut(0, 2), 5);
        Check.due("shut(0, 0)", x.shut(0, 0), 1);
        Check.due("shut(0, 1)", x.shut(0, 1), 1);
        Check.due("shut(0, 3)", x.shut(0, 3), -2);
        Check.due("shut(-1, 0)", x.shut(-1, 0), -2);
        Check.due("bars(0, 0, 3)", x.bars(0, 0, 3), 2);
        Check.due("bars(1, 0, 3)", x.bars(1, 0, 3), 3);
        Check.due("bars(2, 3, 0)", x.bars(2, 3, 0), 1);
        Check.due("bars(1, 2, 2)", x.bars(1, 2, 2), 1);
        Check.due("bars(0, 0, 4)", x.bars(0, 0, 4), -2);
        Check.due("bars(3, 0, 0)", x.bars(3, 0, 0), -2);
        HoopCabinet y = Check.told("ball rooms 3 dances 2 law 0 odds 0;door 0 to 1 wide 1;lady in 0 wide 4;lady in 1 wide 9;bid 0 to 1 at 0;");
        Check.due("widen so that she comes through", y.widen(0, 0), 4);
        HoopCabinet widest = Check.told("ball rooms 2 dances 2 law 0 odds 0;door 1 to 0 wide 1;lady in 0 wide 9;lady in 1 wide 1;bid 0 to 1 at 0;");
        Check.due("widen for the widest", widest.widen(1, 0), 9);
        Check.due("bars to a room without doors", y.bars(0, 0, 2), -1);
        Check.due("bars of the widest", y.bars(1, 0, 1), 9);
    }
}
