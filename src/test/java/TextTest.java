/** Promises 1 to 8 and 68: the tape, the text and its faults, what was told. */
public final class TextTest {
    private static final String HEAD = "ball rooms 3 dances 4 law 0 odds 5;";

    public static void main(String[] args) {
        newObject();
        feeding();
        telling();
        faults();
        faultsKept();
        toldThings();
        counts();
        Check.finish("TextTest");
    }

    private static void newObject() {
        HoopCabinet x = new HoopCabinet();
        Check.due("NONE", HoopCabinet.NONE, -1);
        for (int what = 0; what <= 11; what++) {
            Check.due("count of a new object", x.count(what), 0);
        }
        Check.due("crush of a new object", x.crush(), -2);
        Check.due("undo of a new object", x.undo(), -2);
        Check.due("lady of a new object", x.lady(0, 0), -2);
        Check.due("fault(0) ahead of any", x.fault(0), 0);
        Check.due("fault(1) ahead of any", x.fault(1), -1);
        Check.due("fault(2) ahead of any", x.fault(2), -1);
        for (int k = 0; k < 3; k++) {
            Check.due("back of a new object", x.back(k), -6);
        }
    }

    private static void feeding() {
        HoopCabinet x = new HoopCabinet();
        for (int i = 1; i <= 50; i++) {
            Check.due("feed " + i, x.feed(-1, 0, 1, 2, 3), 20 * i);
        }
        Check.due("feed beyond 1,000", x.feed(1, 2, 3, 4, 5), -1);
        Check.due("count(10)", x.count(10), 1000);
        Check.due("end(1001)", x.end(1001), -1);
        Check.due("end(1000)", x.end(1000), 1000);
        Check.due("end(-1)", x.end(-1), -1);
        Check.due("end(981)", x.end(981), 981);
        Check.due("feed to 1,001", x.feed(1, 2, 3, 4, 5), -1);
        Check.due("end(980)", x.end(980), 980);
        Check.due("feed to 1,000", x.feed(1, 2, 3, 4, 5), 1000);
        Check.due("end(0)", x.end(0), 0);
        Check.due("end(1)", x.end(1), -1);
        // "ball rooms 3 dances 4 law 0 odds 5;", by hand: the highest byte first
        x.feed(0x62616c6c, 0x20726f6f, 0x6d732033, 0x2064616e, 0x63657320);
        x.feed(0x34206c61, 0x77203020, 0x6f646473, 0x20353b21, 0x21212121);
        Check.due("end(35)", x.end(35), 35);
        Check.due("ball()", x.ball(), 1);
        Check.due("odds", x.count(3), 5);
    }

    private static void telling() {
        HoopCabinet x = new HoopCabinet();
        Check.due("ball() of an empty tape", x.ball(), 0);
        Check.tape(x, Balls.ROW);
        Check.due("ball()", x.ball(), 13);
        Check.due("the tape behind it", x.count(10), 0);
        Check.due("LINES", x.count(9), 13);
        Check.due("bid", x.bid(0, 1, 3), 1);
        Check.tape(x, "ball rooms 2 dances 1 law 3 odds 10");
        Check.due("ball() without its sign", x.ball(), -4);
        Check.due("the tape stays", x.count(10), 35);
        Check.due("the ball stays", x.count(0), 4);
        Check.due("acts stay", x.count(8), 1);
        Check.tape(x, "\n ball\nrooms2dances 1law3odds 10 ; lady in0 wide0009;");
        Check.due("ball() with few blanks", x.ball(), 2);
        Check.due("rooms", x.count(0), 2);
        Check.due("dances", x.count(1), 1);
        Check.due("law", x.count(2), 3);
        Check.due("odds", x.count(3), 10);
        Check.due("wide", x.lady(0, 1), 9);
        Check.due("acts are gone", x.count(8), 0);
        Check.tape(x, " \n ");
        Check.due("ball() of blanks", x.ball(), 0);
        Check.due("there is none then", x.crush(), -2);
        Check.due("rooms of none", x.count(0), 0);
        Check.due("LINES of none", x.count(9), 0);
    }

    /** The sign ^ in a text is not part of it: it stands ahead of the fault. */
    private static void faulty(int fault, String marked) {
        int place = marked.indexOf('^');
        String text = marked.substring(0, place) + marked.substring(place + 1);
        HoopCabinet x = new HoopCabinet();
        Check.tape(x, text);
        Check.due("ball() of " + marked, x.ball(), -4);
        Check.due("fault(0) of " + marked, x.fault(0), fault);
        Check.due("fault(1) of " + marked, x.fault(1), place);
    }

    private static void faults() {
        faulty(1, "^door 0 to 1 wide 1;");
        faulty(1, "^balls rooms 3;");
        faulty(1, "^3");
        faulty(1, "^;");
        faulty(1, " ^Ball");
        faulty(1, "^\t");
        faulty(1, "ball^");
        faulty(1, "ball \n ^");
        faulty(1, "ball ^room 3");
        faulty(1, "ball rooms ^dances");
        faulty(1, "ball rooms ^-3");
        faulty(2, "ball rooms ^0 dances 4 law 0 odds 5;");
        faulty(2, "ball rooms ^9 dances 4 law 0 odds 5;");
        faulty(2, "ball rooms ^4294967297 dances 4 law 0 odds 5;");
        faulty(2, "ball rooms ^18446744073709551617 dances 4 law 0 odds 5;");
        faulty(2, "ball rooms 3 dances ^0 law 0 odds 5;");
        faulty(2, "ball rooms 3 dances ^15 law 0 odds 5;");
        faulty(2, "ball rooms 3 dances 4 law ^4 odds 5;");
        faulty(2, "ball rooms 3 dances 4 law 0 odds ^11;");
        faulty(1, "ball rooms 3 dances 4 law 0 odds 5 ^$;");
        faulty(1, "ball rooms 3 dances 4 law 0 odds 5^");
        faulty(2, "ball rooms ^9 dances four");
        faulty(1, HEAD + "^ball rooms 3 dances 4 law 0 odds 5;");
        faulty(1, HEAD + "^;");
        faulty(1, HEAD + "^rooms");
        faulty(1, HEAD + "door ^to");
        faulty(2, HEAD + "door ^3 to 1 wide 1;");
        faulty(2, HEAD + "door 1 to ^3 wide 1;");
        faulty(2, HEAD + "door 1 to ^1 wide 1;");
        faulty(2, HEAD + "door 1 to ^01 wide 1;");
        faulty(1, HEAD + "door 1 ^in 2 wide 1;");
        faulty(2, HEAD + "door 1 to 2 wide ^0;");
        faulty(2, HEAD + "door 1 to 2 wide ^10;");
        faulty(1, HEAD + "door 1 to 2 wide 1 ^1;");
        faulty(2, HEAD + "lady in ^3 wide 1;");
        faulty(2, HEAD + "lady in 0 wide ^0;");
        faulty(2, HEAD + "lady in 0 wide ^10;");
        faulty(1, HEAD + "lady ^0 wide 1;");
        faulty(2, HEAD + "minister under ^0 seats 1;");
        faulty(2, HEAD + "lady in 0 wide 1;minister under ^1 seats 1;lady in 0 wide 1;");
        faulty(2, HEAD + "lady in 0 wide 1;minister under 0 seats ^0;");
        faulty(2, HEAD + "lady in 0 wide 1;minister under 0 seats ^21;");
        faulty(2, HEAD + "bid ^0 to 0 at 0;");
        faulty(2, HEAD + "lady in 0 wide 1;bid 0 to ^3 at 0;");
        faulty(2, HEAD + "lady in 0 wide 1;bid 0 to 2 at ^14;");
        faulty(1, HEAD + "lady in 0 wide 1;bid ^to");
        faulty(1, HEAD + "lady in 0 wide 1;^bids 0 to 2 at 1;");
        faulty(1, HEAD + "^ladyz in 0 wide 1;");
        faulty(1, HEAD + "^zlady in 0 wide 1;");
        faulty(1, HEAD + "lady^{in 0 wide 1;");
        faulty(1, HEAD + "lady^`in 0 wide 1;");
        faulty(1, HEAD + "lady in 0 wide 1^:");
        faulty(1, HEAD + "lady in 0 wide 1^/");
        faulty(1, HEAD + "lady in 0 wide 1\n^\r;");
        faulty(1, HEAD + "^\u00e9");
        faulty(1, HEAD + "^\0");
        faulty(3, HEAD + "door 0 to 1 wide 1;".repeat(12) + "^door 0 to 0 wide 1;");
        faulty(3, HEAD + "lady in 0 wide 1;".repeat(6) + "^lady");
        faulty(3, HEAD + "lady in 0 wide 1;" + "minister under 0 seats 20;".repeat(8) + "^minister;");
        faulty(3, HEAD + "lady in 0 wide 1;" + "bid 0 to 0 at 13;".repeat(10) + "^bid 0 to 0 at 0;");
        faulty(1, HEAD + "door 0 to 1 wide 1;".repeat(12) + "^doors");
    }

    private static void faultsKept() {
        HoopCabinet x = new HoopCabinet();
        Check.tape(x, "ball rooms 9");
        Check.due("ball()", x.ball(), -4);
        Check.due("fault(0)", x.fault(0), 2);
        Check.due("fault(1)", x.fault(1), 11);
        Check.due("fault(2)", x.fault(2), -1);
        Check.due("fault(-1)", x.fault(-1), -1);
        Check.due("image", x.image(0), 0);
        Check.due("end", x.end(0), 0);
        Check.due("fault(0) is of the latest ball()", x.fault(0), 2);
        Check.due("ball()", x.ball(), 0);
        Check.due("fault(0) without", x.fault(0), 0);
        Check.due("fault(1) without", x.fault(1), -1);
    }

    private static void toldThings() {
        HoopCabinet x = Check.told(Balls.ROW);
        Check.due("door(0, 0)", x.door(0, 0), 0);
        Check.due("door(0, 1)", x.door(0, 1), 1);
        Check.due("door(0, 2)", x.door(0, 2), 5);
        Check.due("door(2, 0)", x.door(2, 0), 2);
        Check.due("door(2, 2)", x.door(2, 2), 2);
        Check.due("door(3, 0)", x.door(3, 0), -2);
        Check.due("door(-1, 0)", x.door(-1, 0), -2);
        Check.due("door(0, 3)", x.door(0, 3), -2);
        Check.due("door(0, -1)", x.door(0, -1), -2);
        Check.due("lady(1, 0)", x.lady(1, 0), 3);
        Check.due("lady(2, 1)", x.lady(2, 1), 1);
        Check.due("lady(3, 0)", x.lady(3, 0), -2);
        Check.due("lady(0, 2)", x.lady(0, 2), -2);
        Check.due("minister(1, 0)", x.minister(1, 0), 1);
        Check.due("minister(1, 1)", x.minister(1, 1), 8);
        Check.due("minister(3, 0)", x.minister(3, 0), -2);
        Check.due("minister(0, 2)", x.minister(0, 2), -2);
        x.move(1, 2);
        Check.due("minister(1, 0) behind a move", x.minister(1, 0), 2);
        Check.due("door of a star", Check.told(Balls.STAR).door(1, 0), 2);
    }

    private static void counts() {
        HoopCabinet x = Check.told(Balls.ROW);
        int[] want = {4, 5, 0, 3, 3, 3, 3, 3, 0, 13, 0, 0};
        for (int what = 0; what < want.length; what++) {
            Check.due("count(" + what + ")", x.count(what), want[what]);
        }
        Check.due("count(12)", x.count(12), -1);
        Check.due("count(-1)", x.count(-1), -1);
        x.bid(0, 0, 0);
        x.move(0, 1);
        x.row(1, 0, 0);
        x.row(3, 3, 60);
        x.feed(0, 0, 0, 0, 0);
        Check.due("BIDS behind acts", x.count(7), 3);
        Check.due("acts", x.count(8), 2);
        Check.due("bytes", x.count(10), 20);
        Check.due("SLOTS", x.count(11), 2);
    }
}
