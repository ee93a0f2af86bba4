/** Promises 28, 29, 33 to 40 and 46 to 48: who has a note when, from whom, and who was first. */
public final class NoteTest {
    public static void main(String[] args) {
        row();
        star();
        laws();
        needed();
        bare();
        seen();
        seenWrong();
        Check.finish("NoteTest");
    }

    private static void row() {
        HoopCabinet x = Check.told(Balls.ROW);
        int[] have = {1, 1, 1, 3, 3, 3};
        for (int dance = 0; dance < have.length; dance++) {
            Check.due("have(0, " + dance + ")", x.have(0, dance), have[dance]);
        }
        Check.due("have(0, 6)", x.have(0, 6), -2);
        Check.due("have(3, 0)", x.have(3, 0), -2);
        Check.due("gets(0, 0)", x.gets(0, 0), 0);
        Check.due("gets(0, 1)", x.gets(0, 1), 3);
        Check.due("gets(0, 2)", x.gets(0, 2), -1);
        Check.due("gets(0, 3)", x.gets(0, 3), -2);
        Check.due("from(0, 1)", x.from(0, 1), 0);
        Check.due("from(0, 0)", x.from(0, 0), -1);
        Check.due("from(0, 2)", x.from(0, 2), -1);
        Check.due("from(3, 0)", x.from(3, 0), -2);
        Check.due("hears(0)", x.hears(0), 3);
        Check.due("hears(2)", x.hears(2), 4);
        Check.due("hears(3)", x.hears(3), -2);
        Check.due("hands(0, 1)", x.hands(0, 1), 1);
        Check.due("hands(0, 0)", x.hands(0, 0), 0);
        Check.due("hands(0, 2)", x.hands(0, 2), -1);
        Check.due("hands(0, 3)", x.hands(0, 3), -2);
        Check.due("all(0)", x.all(0), -1);
        Check.due("all(3)", x.all(3), -2);
        Check.due("best()", x.best(), 0);
        Check.due("lasts(0)", x.lasts(0), 3);
        Check.due("lasts(2)", x.lasts(2), -1);
        Check.due("lasts(-1)", x.lasts(-1), -2);
        Check.due("needed(0)", x.needed(0), 0);
        Check.due("needed(3)", x.needed(3), -2);
        int[] by = {3, 3, 1, 1};
        int[] byOne = {3, 3, 3, 3};
        for (int law = 0; law < 4; law++) {
            Check.due("by(0, " + law + ")", x.by(0, law), by[law]);
            Check.due("by(1, " + law + ")", x.by(1, law), byOne[law]);
        }
        Check.due("by(0, 4)", x.by(0, 4), -2);
        Check.due("by(0, -1)", x.by(0, -1), -2);
        Check.due("by(3, 0)", x.by(3, 0), -2);
    }

    /** From lady 0: to 1 at dance 1, from her to 2 at dance 2, from 2 (with 0 at dance 3) to 3 at dance 4. */
    private static void star() {
        HoopCabinet x = Check.told(Balls.STAR);
        int[] have = {1, 3, 7, 7, 15};
        for (int dance = 0; dance < have.length; dance++) {
            Check.due("have(0, " + dance + ")", x.have(0, dance), have[dance]);
        }
        Check.due("from(0, 3)", x.from(0, 3), 2);
        Check.due("from(0, 2)", x.from(0, 2), 1);
        Check.due("hands(0, 3)", x.hands(0, 3), 3);
        Check.due("all(0)", x.all(0), 4);
        Check.due("lasts(0)", x.lasts(0), 4);
        Check.due("needed(0)", x.needed(0), 4);
        Check.due("have(1, 0)", x.have(1, 0), 6);
        Check.due("gets(1, 2)", x.gets(1, 2), 0);
        Check.due("lasts(3)", x.lasts(3), 4);
        Check.due("have(3, 4)", x.have(3, 4), 12);
        Check.due("hears(3)", x.hears(3), 15);
        Check.due("hears(0)", x.hears(0), 7);
        HoopCabinet y = Check.told("ball rooms 2 dances 1 law 0 odds 0;lady in 1 wide 1;lady in 0 wide 1;lady in 0 wide 1;");
        Check.due("best(), the first of several", y.best(), 1);
        Check.due("all of a lonely one", Check.told("ball rooms 1 dances 1 law 0 odds 0;lady in 0 wide 1;").all(0), 0);
    }

    /** All are in one room: a law alone decides, and a note goes one hand further each dance. */
    private static void laws() {
        String ladies = "lady in 0 wide 3;lady in 0 wide 2;lady in 0 wide 3;lady in 0 wide 4;"
            + "minister under 0 seats 3;minister under 1 seats 1;minister under 3 seats 2;minister under 3 seats 1;";
        int[][] want = {{15, 15, 15, 15}, {11, 11, 15, 11}, {7, 2, 7, 15}, {7, 6, 4, 14}};
        for (int law = 0; law < 4; law++) {
            HoopCabinet x = Check.told("ball rooms 1 dances 2 law " + law + " odds 0;" + ladies);
            for (int first = 0; first < 4; first++) {
                Check.due("have(" + first + ", 2) by law " + law, x.have(first, 2), want[law][first]);
                Check.due("by(" + first + ", " + law + ")", x.by(first, law), want[law][first]);
            }
        }
        HoopCabinet x = Check.told("ball rooms 1 dances 2 law 3 odds 0;" + ladies);
        Check.due("from() of the first", x.from(0, 2), 0);
        x.move(0, 2);
        Check.due("a minister who moved", x.have(0, 2), 1);
        Check.due("she has seats now", x.have(2, 2), 7);
    }

    /** Three in a chain of dances: 0 and 3 give to 1 at dance 1, who gives to 2 at dance 2. */
    private static void needed() {
        HoopCabinet x = Check.told("ball rooms 3 dances 2 law 0 odds 0;door 0 to 1 wide 1;door 1 to 2 wide 1;"
            + "lady in 0 wide 1;lady in 0 wide 1;lady in 2 wide 1;lady in 0 wide 1;bid 1 to 1 at 0;bid 2 to 1 at 1;bid 3 to 1 at 0;");
        Check.due("all but the second to give", x.have(0, 2), 15);
        Check.due("either of two gives: nobody is needed", x.needed(0), 0);
        Check.due("the least of several gives", x.from(0, 2), 1);
        HoopCabinet y = Check.told("ball rooms 3 dances 2 law 0 odds 0;door 0 to 1 wide 1;door 1 to 2 wide 1;"
            + "lady in 0 wide 1;lady in 0 wide 1;lady in 2 wide 1;bid 1 to 1 at 0;bid 2 to 1 at 1;");
        Check.due("one alone brings it", y.needed(0), 2);
        Check.due("the first is never named", y.needed(1), 0);
    }

    private static void bare() {
        HoopCabinet x = Check.told(Balls.BARE);
        Check.due("best() of nobody", x.best(), -1);
        Check.due("have of nobody", x.have(0, 0), -2);
        Check.row(x, 0, 0);
        Check.due("firsts of nobody", x.firsts(0), 0);
        Check.due("ask of nobody", x.ask(0), -1);
        Check.due("leaves of nobody", x.leaves(0), 0);
    }

    private static void seen() {
        HoopCabinet x = Check.told(Balls.ROW);
        Check.row(x, 0, 0, 1, 2, 1);
        Check.due("1 had it at 2", x.firsts(0), 2);
        Check.due("nothing to ask", x.ask(0), -1);
        Check.due("as now", x.leaves(0), 1);
        Check.row(x, 1, 3, 1, 3, 1);
        Check.due("1 had it at 3", x.firsts(1), 3);
        Check.due("ask 0", x.ask(1), 0);
        Check.due("leaves one", x.leaves(1), 1);
        Check.row(x, 2, 1, 1, 3, 1, 0, 2, 0);
        Check.due("1 had it at 3, 0 not at 2", x.firsts(2), 2);
        Check.row(x, 2, 2, 1, 3, 1, 2, 0, 1);
        Check.due("nobody can have been", x.firsts(2), 0);
        Check.due("ask of nobody", x.ask(2), -1);
        Check.due("leaves nobody", x.leaves(2), 0);
        Check.row(x, 3, 0);
        Check.due("nothing seen", x.firsts(3), 7);
        Check.due("nothing seen, ask", x.ask(3), 0);
        Check.due("nothing seen, leaves", x.leaves(3), 1);
        HoopCabinet y = Check.told("ball rooms 2 dances 1 law 0 odds 0;lady in 1 wide 1;lady in 0 wide 1;lady in 0 wide 1;");
        Check.row(y, 0, 0);
        Check.due("two are alike", y.leaves(0), 2);
        Check.due("ask the first of several", y.ask(0), 0);
        latest();
        Check.row(y, 0, 0, 1, 1, 1);
        Check.due("two who can't be told apart", y.firsts(0), 6);
        Check.due("ask nobody", y.ask(0), -1);
        Check.due("as now", y.leaves(0), 2);
    }

    /** She comes at the last dance that there can be, 14. */
    private static void latest() {
        HoopCabinet x = Check.told("ball rooms 2 dances 14 law 0 odds 0;door 0 to 1 wide 1;lady in 0 wide 1;lady in 1 wide 1;bid 0 to 1 at 13;");
        Check.due("gets(0, 1)", x.gets(0, 1), 14);
        Check.due("have(0, 13)", x.have(0, 13), 1);
        Check.due("have(0, 15)", x.have(0, 15), -2);
        Check.due("carry(0, 0, 1)", x.carry(0, 0, 1), 1);
        Check.row(x, 0, 0, 1, 14, 1, 1, 13, 0);
        Check.due("firsts", x.firsts(0), 1);
        Check.row(x, 0, 0, 1, 14, 1);
        Check.due("firsts", x.firsts(0), 3);
        Check.due("ask", x.ask(0), 0);
        Check.due("leaves", x.leaves(0), 1);
    }

    private static void seenWrong() {
        HoopCabinet x = new HoopCabinet();
        Check.due("no ball ahead of nothing", x.firsts(0), -2);
        x = Check.told(Balls.ROW);
        seenAll(x, -1, -2);
        seenAll(x, 4, -2);
        seenAll(x, 2, -6);
        Check.row(x, 2, 0, 0, 0);
        seenAll(x, 2, -2);
        Check.row(x, 2, 0, 3, 0, 1);
        seenAll(x, 2, -2);
        Check.row(x, 2, 0, 0, 6, 1);
        seenAll(x, 2, -2);
        Check.row(x, 2, 0, 0, 0, 2);
        seenAll(x, 2, -2);
        Check.row(x, 2, 0, 0, 0, 1, -1, 0, 1);
        seenAll(x, 2, -2);
        Check.row(x, 2, 3, 0, 0, 4294967296L);
        seenAll(x, 2, -2);
        Check.row(x, 2, 0, 256, 512, 257);
        Check.due("numbers cut to their width", x.firsts(2), 1);
        x.end(0);
        x.ball();
        seenAll(x, 2, -2);
        seenAll(x, 3, -2);
    }

    private static void seenAll(HoopCabinet x, int slot, int want) {
        Check.due("firsts(" + slot + ")", x.firsts(slot), want);
        Check.due("ask(" + slot + ")", x.ask(slot), want);
        Check.due("leaves(" + slot + ")", x.leaves(slot), want);
    }
}
