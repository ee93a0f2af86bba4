import java.util.function.Supplier;

/**
 * The boundary cases of promises 61 to 64, 67, 69 and 70: none, thirty acts, one more; what is taken back, and what a
 * refused call leaves. Numbers that are none such are asked in BoundsTest.
 */
public final class ActEdgeTest {
    private static final int MOST = 30;

    public static void main(String[] args) {
        noBall();
        noActs();
        bidDances();
        bidEnds();
        moveEnds();
        thirty();
        takenBack();
        hang();
        hangWithActs();
        noImage();
        imageOfNoBall();
        imageKeepsAll();
        imagesApart();
        Check.finish("ActEdgeTest");
    }

    /** An object with a ball, an image of it, a row, bytes on the tape, and so many acts. */
    private static HoopCabinet busy(int acts) {
        HoopCabinet x = Check.told(Balls.ROW);
        x.image(0);
        Check.row(x, 1, 1, 1, 3, 1);
        Check.tape(x, "ball rooms 9");
        for (int i = 0; i < acts; i++) {
            if (i % 2 == 0) {
                x.bid(i % 3, i % 4, i % 14);
            } else {
                x.move(i % 3, i / 2 % 3);
            }
        }
        return x;
    }

    private static void noBall() {
        Supplier<HoopCabinet> none = () -> {
            HoopCabinet x = busy(3);
            x.end(0);
            x.ball();
            return x;
        };
        Twins.refused("61: no ball", none, x -> x.bid(0, 0, 0), -2);
        Twins.refused("62: no ball", none, x -> x.move(0, 0), -2);
        Twins.refused("63: no ball, ahead of no act", none, HoopCabinet::undo, -2);
        Twins.refused("64: no ball", none, HoopCabinet::anew, -2);
        Twins.refused("67: no ball", none, x -> x.hang(0, 1), -2);
        Twins.refused("63: a new object", HoopCabinet::new, HoopCabinet::undo, -2);
        Twins.refused("64: a new object", HoopCabinet::new, HoopCabinet::anew, -2);
    }

    private static void noActs() {
        Twins.refused("63: there is none", () -> busy(0), HoopCabinet::undo, -5);
        Twins.refused("64: there were none", () -> busy(0), HoopCabinet::anew, 0);
        Twins.done("63: is seen", () -> busy(1), HoopCabinet::undo, 0);
        Twins.done("64: is seen", () -> busy(1), HoopCabinet::anew, 1);
        HoopCabinet x = busy(1);
        Check.due("63: the only one", x.undo(), 0);
        Check.due("63: there is none any more", x.undo(), -5);
        HoopCabinet y = busy(1);
        Check.due("64: the only one", y.anew(), 1);
        Check.due("64: there are none", y.anew(), 0);
        Check.due("63: there is none", y.undo(), -5);
        HoopCabinet z = Check.told(Balls.BARE);
        Check.due("63: a ball without ladies", z.undo(), -5);
        Check.due("64: a ball without ladies", z.anew(), 0);
    }

    /** 0 .. 13, whatever dances the ball has; one that comes too late moves nobody, but is an act. */
    private static void bidDances() {
        for (int dances : new int[] {1, 13, 14}) {
            String text = "ball rooms 2 dances " + dances + " law 0 odds 0;door 0 to 1 wide 1;lady in 0 wide 1;";
            for (int dance = 0; dance <= 13; dance++) {
                HoopCabinet x = Check.told(text);
                Check.due("61: at " + dance + " of " + dances, x.bid(0, 1, dance), dance < dances ? 1 : 0);
                Check.due("61: is an act", x.count(8), 1);
                Check.due("61: where she is in the end", x.at(0, dances), dance < dances ? 1 : 0);
            }
            Twins.refused("61: at 14", () -> Check.told(text), x -> x.bid(0, 1, 14), -2);
            Twins.refused("61: at -1", () -> Check.told(text), x -> x.bid(0, 1, -1), -2);
        }
    }

    /** Behind all told and earlier acts; the last lady, the last room. */
    private static void bidEnds() {
        HoopCabinet x = Check.told(Balls.FULL);
        // at 12 she is bidden to 3, at 13 to 7: from 7 to 6, and back to 7
        Check.due("61: the last lady to the last room", x.bid(5, 7, 0), 7);
        Check.due("12: a dance ahead", x.at(5, 13), 6);
        HoopCabinet y = Check.told("ball rooms 3 dances 2 law 0 odds 0;door 0 to 1 wide 1;door 0 to 2 wide 1;lady in 0 wide 1;bid 0 to 1 at 0;");
        Check.due("61: behind the one told", y.bid(0, 2, 0), 2);
        Check.due("61: behind an act", y.bid(0, 1, 0), 1);
        Check.due("61: a later at", y.bid(0, 0, 1), 0);
        Check.due("61: an earlier at told later", y.bid(0, 2, 0), 0);
        Check.due("61: at(0, 1)", y.at(0, 1), 2);
        Check.due("63: taken back", y.undo(), 3);
        Check.due("63: at(0, 1)", y.at(0, 1), 1);
        HoopCabinet z = Check.told(Balls.SMALL);
        Check.due("61: where she is", z.bid(0, 0, 0), 0);
        HoopCabinet stuck = Check.told("ball rooms 2 dances 1 law 0 odds 0;lady in 0 wide 1;");
        Check.due("61: no way", stuck.bid(0, 1, 0), 0);
        Check.due("61: no way, but bidden", stuck.bidden(0, 1), 1);
    }

    private static void moveEnds() {
        HoopCabinet x = Check.told(Balls.FULL);
        Check.due("62: the last one under the first lady", x.move(7, 0), 5);
        Check.due("62: under whom he was then", x.move(7, 5), 0);
        Check.due("62: under whom he is already", x.move(7, 5), 5);
        Check.due("62: each is an act", x.count(8), 3);
        Check.due("63: taken back to where he was", x.undo(), 2);
        Check.due("8: there still", x.minister(7, 0), 5);
        Check.due("63: taken back", x.undo(), 1);
        Check.due("8: under the first one", x.minister(7, 0), 0);
        Check.due("64: the last one", x.anew(), 1);
        Check.due("8: as told", x.minister(7, 0), 5);
        Twins.done("62: is seen", () -> Check.told(Balls.FULL), y -> y.move(7, 5), 5);
        Twins.refused("62: no ministers", () -> Check.told(Balls.STAR), y -> y.move(0, 0), -2);
    }

    /** The thirtieth is taken, one more is not, until one is taken back. Of the acts one bids lady 0 to 2 at 4: she is in 1 then. */
    private static void thirty() {
        Check.due("61: the 30th", busy(MOST - 1).bid(0, 0, 0), 1);
        Check.due("62: the 30th", busy(MOST - 1).move(0, 1) >= 0 ? 1 : 0, 1);
        Check.due("68: thirty", busy(MOST).count(8), 30);
        Twins.done("61: the 30th is seen", () -> busy(MOST - 1), x -> x.bid(0, 0, 0), 1);
        Twins.refused("61: a 31st", () -> busy(MOST), x -> x.bid(0, 1, 0), -5);
        Twins.refused("62: a 31st", () -> busy(MOST), x -> x.move(0, 1), -5);
        Twins.refused("61: -2 ahead of -5, lady", () -> busy(MOST), x -> x.bid(3, 1, 0), -2);
        Twins.refused("61: -2 ahead of -5, room", () -> busy(MOST), x -> x.bid(0, 4, 0), -2);
        Twins.refused("61: -2 ahead of -5, dance", () -> busy(MOST), x -> x.bid(0, 1, 14), -2);
        Twins.refused("62: -2 ahead of -5, minister", () -> busy(MOST), x -> x.move(3, 0), -2);
        Twins.refused("62: -2 ahead of -5, lady", () -> busy(MOST), x -> x.move(0, 3), -2);
        HoopCabinet x = busy(MOST);
        Check.due("63: of thirty", x.undo(), 29);
        Check.due("61: the 30th again", x.bid(0, 0, 0), 1);
        Check.due("61: a 31st again", x.bid(0, 0, 0), -5);
        Check.due("64: all thirty", x.anew(), 30);
        Check.due("61: the first again", x.bid(0, 0, 0), 0);
        Check.due("68: one", x.count(8), 1);
        HoopCabinet y = busy(MOST);
        Check.tape(y, Balls.ROW);
        y.ball();
        Check.due("4: nothing done", y.count(8), 0);
        Check.due("61: the first of a new ball", y.bid(0, 0, 0), 0);
    }

    /** Each of thirty acts is taken back in turn: it is as it was ahead of it. */
    private static void takenBack() {
        for (int acts = 0; acts < MOST; acts++) {
            int left = acts;
            Twins.refused("63: back to " + left, () -> busy(left), x -> {
                int more = busy(left + 1).count(8);
                if (left % 2 == 0) {
                    x.bid(left % 3, left % 4, left % 14);
                } else {
                    x.move(left % 3, left / 2 % 3);
                }
                return 100 * more + x.undo();
            }, 100 * (left + 1) + left);
        }
        Twins.refused("64: all are taken back", () -> busy(0), x -> {
            x.move(0, 1);
            x.bid(0, 0, 0);
            x.move(0, 2);
            x.move(1, 2);
            return x.anew();
        }, 4);
    }

    private static void hang() {
        HoopCabinet x = Check.told(Balls.FULL);
        Check.due("67: the least wide", x.hang(11, 1), 8);
        Check.due("67: the most wide", x.hang(11, 9), 1);
        Check.due("67: as it is", x.hang(11, 9), 9);
        Check.due("6: from now on", x.door(11, 2), 9);
        Check.due("67: is no act", x.count(8), 0);
        Check.due("9: she has a way now", x.way(5, 7, 3), 1);
        Twins.refused("67: 0", () -> busy(0), y -> y.hang(0, 0), -2);
        Twins.refused("67: 10", () -> busy(0), y -> y.hang(0, 10), -2);
        Twins.refused("67: no doors", () -> Check.told(Balls.SMALL), y -> y.hang(0, 1), -2);
        Twins.refused("67: as it was", () -> busy(0), y -> y.hang(0, 5), 5);
        Twins.done("67: is seen", () -> busy(0), y -> y.hang(0, 4), 5);
        HoopCabinet z = Check.told(Balls.ROW);
        z.hang(2, 3);
        Check.due("12: she goes through", z.at(1, 1), 2);
        z.hang(2, 2);
        Check.due("12: she does not any more", z.at(1, 1), 3);
    }

    private static void hangWithActs() {
        for (int acts : new int[] {1, 2, MOST}) {
            Twins.refused("67: with " + acts + " acts", () -> busy(acts), x -> x.hang(0, 4), -5);
            Twins.refused("67: as it is, with " + acts + " acts", () -> busy(acts), x -> x.hang(0, 5), -5);
            Twins.refused("67: -2 ahead of -5, door", () -> busy(acts), x -> x.hang(3, 4), -2);
            Twins.refused("67: -2 ahead of -5, n", () -> busy(acts), x -> x.hang(0, 10), -2);
            Twins.refused("67: -2 ahead of -5, n", () -> busy(acts), x -> x.hang(0, 0), -2);
        }
        HoopCabinet x = busy(2);
        x.undo();
        Check.due("67: with one act", x.hang(0, 4), -5);
        x.undo();
        Check.due("67: all are taken back", x.hang(0, 4), 5);
        Check.due("61: an act", x.bid(0, 0, 0), 0);
        Check.due("64: taken back", x.anew(), 1);
        Check.due("67: the door stays as hung", x.hang(0, 6), 4);
    }

    private static void noImage() {
        for (int k = 1; k < 3; k++) {
            int which = k;
            Twins.refused("70: it has nothing", () -> busy(3), x -> x.back(which), -6);
            Twins.done("69: is seen", () -> busy(3), x -> x.image(which), 0);
        }
        for (int k : new int[] {-1, 3, Integer.MIN_VALUE, Integer.MAX_VALUE}) {
            Twins.refused("69: no such k", () -> busy(3), x -> x.image(k), -2);
            Twins.refused("70: no such k", () -> busy(3), x -> x.back(k), -2);
        }
        Twins.refused("70: nothing in a new object", HoopCabinet::new, x -> x.back(0), -6);
        Twins.done("70: is seen", () -> busy(1), x -> x.back(0), 0);
        Twins.refused("70: as it is", () -> busy(0), x -> x.back(0), 0);
    }

    /** An image of no ball has that: there is none then. */
    private static void imageOfNoBall() {
        HoopCabinet x = new HoopCabinet();
        Check.due("69: of no ball", x.image(0), 0);
        Check.tape(x, Balls.ROW);
        x.ball();
        x.bid(0, 0, 0);
        Check.due("70: to no ball", x.back(0), 0);
        Check.due("70: there is none", x.crush(), -2);
        Check.due("70: no acts", x.count(8), 0);
        Check.due("63: no ball", x.undo(), -2);
        Check.due("68: no lines", x.count(9), 0);
    }

    /** The ball, doors as hung, and acts, which can be taken back; tape, rows and faults stay. */
    private static void imageKeepsAll() {
        HoopCabinet x = Check.told(Balls.ROW);
        x.hang(0, 7);
        for (int i = 0; i < MOST; i++) {
            x.move(i % 3, (i + 1) % 3);
        }
        x.image(2);
        Check.tape(x, "$");
        x.ball();
        x.end(0);
        Check.tape(x, Balls.FULL);
        x.ball();
        Check.tape(x, "$$");
        x.ball();
        x.row(0, 0, 0);
        Check.due("70: the last image", x.back(2), 0);
        Check.due("68: thirty acts", x.count(8), 30);
        Check.due("61: a 31st", x.bid(0, 0, 0), -5);
        Check.due("6: the door as hung", x.door(0, 2), 7);
        Check.due("6: no more doors", x.door(3, 0), -2);
        Check.due("68: the tape stays", x.count(10), 2);
        Check.due("68: rows stay", x.count(11), 1);
        Check.due("5: the fault stays", x.fault(0), 1);
        Check.due("8: as moved", x.minister(0, 0), 1);
        Check.due("64: taken back", x.anew(), 30);
        Check.due("8: as told", x.minister(0, 0), 0);
        Check.due("6: the door as hung", x.door(0, 2), 7);
        Check.due("70: once more", x.back(2), 0);
        Check.due("68: it has its acts still", x.count(8), 30);
    }

    /** Three images, each by itself; a new one in place of an old one. */
    private static void imagesApart() {
        HoopCabinet x = Check.told(Balls.ROW);
        for (int k = 0; k < 3; k++) {
            Check.due("69: image " + k, x.image(k), 0);
            x.bid(0, 0, k);
        }
        for (int k = 2; k >= 0; k--) {
            Check.due("70: image " + k, x.back(k), 0);
            Check.due("68: its acts", x.count(8), k);
        }
        Check.due("70: image 2", x.back(2), 0);
        Check.due("69: in place of another one", x.image(0), 0);
        Check.due("70: image 1", x.back(1), 0);
        Check.due("68: its act", x.count(8), 1);
        Check.due("70: image 0", x.back(0), 0);
        Check.due("68: its acts", x.count(8), 2);
        HoopCabinet z = Check.told(Balls.ROW);
        z.image(0);
        z.hang(0, 9);
        Check.due("70: an image is not hung anew", z.back(0), 0);
        Check.due("6: as it was", z.door(0, 2), 5);
    }
}
