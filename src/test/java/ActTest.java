/** Promises 61 to 64, 67, 69 and 70: acts, doors hung anew, images. */
public final class ActTest {
    public static void main(String[] args) {
        bids();
        moves();
        thirty();
        hanging();
        images();
        Check.finish("ActTest");
    }

    private static void bids() {
        HoopCabinet x = Check.told(Balls.ROW);
        Check.due("an earlier bid than the told one", x.bid(2, 2, 0), 0);
        Check.due("the same dance, told later", x.bid(2, 3, 1), 3);
        Check.due("at(2, 2)", x.at(2, 2), 3);
        Check.due("bidden(2, 1)", x.bidden(2, 1), 3);
        Check.due("a later dance", x.bid(2, 0, 4), 2);
        Check.due("beyond the dances", x.bid(2, 3, 13), 2);
        Check.due("behind all acts", x.bid(2, 3, 4), 3);
        Check.due("no way", x.bid(1, 0, 0), 3);
        Check.due("acts", x.count(8), 6);
        Check.due("bid(3, 0, 0)", x.bid(3, 0, 0), -2);
        Check.due("bid(0, 4, 0)", x.bid(0, 4, 0), -2);
        Check.due("bid(0, 0, 14)", x.bid(0, 0, 14), -2);
        Check.due("bid(0, 0, -1)", x.bid(0, 0, -1), -2);
        Check.due("undo()", x.undo(), 5);
        Check.due("undo()", x.undo(), 4);
        Check.due("at(2, 5)", x.at(2, 5), 2);
        Check.due("anew()", x.anew(), 4);
        Check.due("at(2, 5)", x.at(2, 5), 0);
        Check.due("anew() without", x.anew(), 0);
        Check.due("undo() without", x.undo(), -5);
    }

    private static void moves() {
        HoopCabinet x = Check.told(Balls.ROW);
        Check.due("move(0, 2)", x.move(0, 2), 0);
        Check.due("move(0, 2) again", x.move(0, 2), 2);
        Check.due("move(0, 1)", x.move(0, 1), 2);
        Check.due("seats(1)", x.seats(1), 13);
        Check.due("move(3, 0)", x.move(3, 0), -2);
        Check.due("move(0, 3)", x.move(0, 3), -2);
        Check.due("bid", x.bid(0, 0, 0), 0);
        Check.due("undo()", x.undo(), 3);
        Check.due("undo()", x.undo(), 2);
        Check.due("minister(0, 0)", x.minister(0, 0), 2);
        Check.due("anew()", x.anew(), 2);
        Check.due("minister(0, 0)", x.minister(0, 0), 0);
        HoopCabinet none = new HoopCabinet();
        Check.due("undo() without a ball", none.undo(), -2);
        Check.due("anew() without a ball", none.anew(), -2);
        Check.due("move() without a ball", none.move(0, 0), -2);
        Check.due("bid() without a ball", none.bid(0, 0, 0), -2);
    }

    private static void thirty() {
        HoopCabinet x = Check.told(Balls.ROW);
        for (int i = 0; i < 15; i++) {
            Check.due("bid", x.bid(0, 2, 0), 2);
            x.move(1, i % 3);
        }
        Check.due("a 31st bid", x.bid(0, 0, 0), -5);
        Check.due("a 31st move", x.move(0, 0), -5);
        Check.due("-2 ahead of -5", x.bid(0, 0, 14), -2);
        Check.due("-2 ahead of -5", x.move(3, 0), -2);
        Check.due("acts", x.count(8), 30);
        Check.due("undo()", x.undo(), 29);
        Check.due("move", x.move(0, 1), 0);
        Check.due("a 31st", x.bid(0, 0, 0), -5);
        Check.due("anew()", x.anew(), 30);
        Check.due("acts", x.count(8), 0);
        Check.due("minister(0, 0)", x.minister(0, 0), 0);
        Check.due("minister(1, 0)", x.minister(1, 0), 1);
        Check.due("at(0, 5)", x.at(0, 5), 3);
    }

    private static void hanging() {
        HoopCabinet x = Check.told(Balls.ROW);
        Check.due("hang(2, 3)", x.hang(2, 3), 2);
        Check.due("door(2, 2)", x.door(2, 2), 3);
        Check.due("at(1, 5)", x.at(1, 5), 0);
        Check.due("reach(1, 3)", x.reach(1, 3), 15);
        Check.due("hang(3, 3)", x.hang(3, 3), -2);
        Check.due("hang(0, 0)", x.hang(0, 0), -2);
        Check.due("hang(0, 10)", x.hang(0, 10), -2);
        x.bid(0, 0, 0);
        Check.due("hang with acts", x.hang(2, 2), -5);
        Check.due("-2 ahead of -5", x.hang(0, 0), -2);
        x.undo();
        Check.due("hang(2, 2)", x.hang(2, 2), 3);
        Check.due("at(1, 5)", x.at(1, 5), 3);
        Check.due("hang(2, 9)", x.hang(2, 9), 2);
        Check.due("anew leaves it", x.anew(), 0);
        Check.due("door(2, 2)", x.door(2, 2), 9);
    }

    private static void images() {
        HoopCabinet x = Check.told(Balls.ROW);
        Check.due("image(3)", x.image(3), -2);
        Check.due("image(-1)", x.image(-1), -2);
        Check.due("back(3)", x.back(3), -2);
        Check.due("back(2)", x.back(2), -6);
        x.hang(2, 3);
        x.move(1, 0);
        x.bid(2, 2, 1);
        Check.due("image(1)", x.image(1), 0);
        x.undo();
        x.move(1, 2);
        x.move(1, 2);
        Check.due("image(0)", x.image(0), 0);
        Check.tape(x, Balls.STAR);
        x.ball();
        x.row(0, 0, 3);
        x.feed(0, 0, 0, 0, 0);
        Check.due("back(1)", x.back(1), 0);
        Check.due("rooms", x.count(0), 4);
        Check.due("LINES", x.count(9), 13);
        Check.due("acts", x.count(8), 2);
        Check.due("door(2, 2)", x.door(2, 2), 3);
        Check.due("seats(0)", x.seats(0), 13);
        Check.due("at(2, 5)", x.at(2, 5), 2);
        Check.due("the tape stays", x.count(10), 20);
        Check.due("slots stay", x.count(11), 1);
        Check.due("undo()", x.undo(), 1);
        Check.due("at(2, 5)", x.at(2, 5), 0);
        Check.due("undo()", x.undo(), 0);
        Check.due("seats(1)", x.seats(1), 8);
        Check.due("back(0)", x.back(0), 0);
        Check.due("seats(2)", x.seats(2), 12);
        Check.due("acts", x.count(8), 3);
        Check.due("back(1) again", x.back(1), 0);
        Check.due("acts", x.count(8), 2);
        HoopCabinet none = new HoopCabinet();
        Check.due("image of no ball", none.image(2), 0);
        Check.tape(none, Balls.STAR);
        none.ball();
        Check.due("back to no ball", none.back(2), 0);
        Check.due("there is none", none.crush(), -2);
        Check.due("at(0, 0)", none.at(0, 0), -2);
    }
}
