import java.util.NoSuchElementException;

/** Promises 1 and 6 to 36, one method each: ordinary calls, the edges, and wrong arguments. */
final class PromisesTest {
    private static final Saying SAY = new Saying();
    private static final int LOW = Integer.MIN_VALUE;
    private static final int HIGH = Integer.MAX_VALUE;

    private static final String FIVE = "river ada brook from 50 to 20 place 10 water 8 4 2 6 mill 5 at 30 ; "
            + "river ben brook from 40 to 5 place 30 water 20 10 10 20 mill 12 at 10 town 40 at 8 ; "
            + "river cat proud from 30 to 0 place 60 water 9 9 9 9 of ada ; "
            + "river dov clear from 60 to 25 place 20 water 5 5 5 5 ; "
            + "river sea salt from 10 to 0 place 90 water 0 0 0 0 ; "
            + "range 20 thick 7 ; range 45 thick 30 ; "
            + "dowry flow + near * 0 + dig ; silt flow - 5 ; storm 2 by 10 ;";
    private static final String TWO = "river a brook from 20 to 10 place 0 water 7 6 5 4 ; "
            + "river b brook from 30 to 0 place 15 water 3 3 3 3 ; ";

    private PromisesTest() { }

    public static void main(String[] args) {
        newObject();
        river();
        flow();
        needs();
        near();
        dig();
        may();
        ends();
        wed();
        part();
        seasons();
        undo();
        judged();
        worn();
        love();
        hyphen();
        match();
        matchTies();
        chain();
        peace();
        cathedral();
        eddies();
        worst();
        share();
        storms();
        walls();
        tell();
        found();
        rests();
        dams();
        centuries();
        mark();
        count();
        SAY.end("PromisesTest");
    }

    private static String brook(String name, int from, int to, int place, String water) {
        return kind(name, "brook", from, to, place, water) + "; ";
    }

    private static String kind(String name, String kind, int from, int to, int place, String water) {
        return "river " + name + " " + kind + " from " + from + " to " + to + " place " + place + " water " + water
                + " ";
    }

    private static void newObject() {
        RiverVows x = new RiverVows();
        for (int what = -1; what <= 10; what++) {
            SAY.due("new: count(" + what + ")", x.count(what), what == 5 || what == -1 || what == 10 ? -1 : 0);
        }
        SAY.due("new: needs(1)", x.needs(1), 0);
        SAY.due("new: match(2)", x.match(2), 1);
        SAY.due("new: match(3)", x.match(3), -2);
        SAY.due("new: found(0)", x.found(0), 1);
        SAY.due("new: found(1)", x.found(1), -1);
        SAY.due("new: found(2)", x.found(2), -3);
        SAY.due("new: share(0, 0, 0)", x.share(0, 0, 0), -1);
        SAY.due("new: tell(0, 0, 0)", x.tell(0, 0, 0), false);
        SAY.due("new: mark(3, true)", x.mark(3, true), false);
        SAY.due("new: mark(3, false)", x.mark(3, false), true);
        SAY.due("new: mark(3, true)", x.mark(3, true), true);
        throwsRiver(x, 0, 0);
        throwsWorst(x, 0, 0);
        SAY.due("NONE", RiverVows.NONE, -1);
    }

    private static void throwsRiver(RiverVows x, int river, int what) {
        boolean thrown = false;
        try {
            x.river(river, what);
        } catch (NoSuchElementException e) {
            thrown = true;
        }
        SAY.due("river(" + river + ", " + what + ") throws", thrown, true);
    }

    private static void throwsWorst(RiverVows x, int river, int what) {
        boolean thrown = false;
        try {
            x.worst(river, what);
        } catch (NoSuchElementException e) {
            thrown = true;
        }
        SAY.due("worst(" + river + ", " + what + ") throws", thrown, true);
    }

    private static void river() {
        RiverVows x = SAY.told(FIVE);
        int[][] due = {{0, 50, 20, 10, -1}, {0, 40, 5, 30, -1}, {1, 30, 0, 60, 0}, {2, 60, 25, 20, -1},
            {3, 10, 0, 90, -1}};
        for (int r = 0; r < 5; r++) {
            for (int what = 0; what < 5; what++) {
                SAY.due("river(" + r + ", " + what + ")", x.river(r, what), due[r][what]);
            }
        }
        x.wed(0, 1);
        x.wed(3, 1);
        SAY.due("husband", x.river(0, 5), 1);
        SAY.due("no husband", x.river(1, 5), -1);
        SAY.due("wives", x.river(1, 6), 9);
        SAY.due("no wives", x.river(0, 6), 0);
        x.seasons(1);
        SAY.due("silt", x.river(1, 7), 28);
        SAY.due("silt of none", x.river(3, 7), 0);
        // 8 + 27 of ada, 5 + 10 of dov
        SAY.due("owed", x.river(1, 8), 50);
        SAY.due("owes", x.river(3, 8), -15);
        throwsRiver(x, -1, 0);
        throwsRiver(x, 5, 0);
        throwsRiver(x, 0, -1);
        throwsRiver(x, 0, 9);
        throwsRiver(x, LOW, HIGH);
        throwsRiver(x, HIGH, LOW);
    }

    private static void flow() {
        RiverVows x = SAY.told(kind("c", "clear", 50, 10, 0, "4 5 6 7") + "; " + brook("h", 90, 30, 0, "10 0 0 0")
                + brook("l", 90, 10, 0, "20 0 0 0") + brook("u", 90, 40, 0, "40 1 2 3"));
        x.wed(1, 0);
        x.wed(3, 1);
        SAY.due("clear above", x.flow(0, 30, 0), 4);
        SAY.due("clear right above the mouth", x.flow(0, 11, 0), 4);
        SAY.due("clear at the mouth", x.flow(0, 10, 0), 54);
        SAY.due("brook where its wife comes", x.flow(1, 40, 0), 50);
        SAY.due("brook above its wife", x.flow(1, 41, 0), 10);
        SAY.due("brook at its mouth", x.flow(1, 30, 3), 3);
        SAY.due("at the spring", x.flow(0, 50, 3), 7);
        SAY.due("above the spring", x.flow(0, 51, 3), -1);
        SAY.due("below the mouth", x.flow(0, 9, 3), -1);
        x.wed(2, 0);
        SAY.due("clear with more", x.flow(0, 10, 0), 74);
        x.part(1);
        SAY.due("parted", x.flow(0, 10, 0), 24);
        for (int bad : new int[] {-1, 4, LOW, HIGH}) {
            SAY.due("flow of no river", x.flow(bad, 30, 0), -1);
            SAY.due("flow in no season", x.flow(0, 30, bad), -1);
        }
        for (int bad : new int[] {-1, 100, LOW, HIGH}) {
            SAY.due("flow at no height", x.flow(0, bad, 0), -1);
        }
    }

    private static void needs() {
        RiverVows x = SAY.told(kind("a", "brook", 20, 10, 0, "7 6 8 4") + "mill 7 at 10 town 7 at 20 ; "
                + kind("b", "brook", 30, 0, 15, "3 3 3 3") + "mill 10 at 10 town 9 at 9 ; ");
        SAY.due("dry at first", x.needs(0), 2);
        SAY.due("flooded at first", x.needs(1), 0);
        x.wed(0, 1);
        SAY.due("dry when wed", x.needs(0), 0);
        SAY.due("flooded when wed", x.needs(1), 2);
        x.seasons(1);
        SAY.due("dry in the second", x.needs(0), 3);
        SAY.due("flooded in the second", x.needs(1), 0);
        x.seasons(1);
        SAY.due("dry in the third", x.needs(0), 0);
        SAY.due("flooded in the third", x.needs(1), 3);
        SAY.due("needs(2)", x.needs(2), -1);
        SAY.due("needs(-1)", x.needs(-1), -1);
    }

    private static void near() {
        String b = " brook from 20 to 10 place 0 water 1 1 1 1 ";
        RiverVows x = SAY.told("river gran" + b + "; river mum" + b + "of gran ; river aunt" + b + "of gran ; river kid"
                + b + "of mum ; river cousin" + b + "of aunt ; river other" + b + ";");
        int[][] due = {{0, 1, 1, 2, 2, 99}, {1, 0, 2, 1, 3, 99}, {1, 2, 0, 3, 1, 99}, {2, 1, 3, 0, 4, 99},
            {2, 3, 1, 4, 0, 99}, {99, 99, 99, 99, 99, 0}};
        for (int i = 0; i < 6; i++) {
            for (int j = 0; j < 6; j++) {
                SAY.due("near(" + i + ", " + j + ")", x.near(i, j), due[i][j]);
            }
        }
        for (int bad : new int[] {-1, 6, LOW, HIGH}) {
            SAY.due("near of none", x.near(bad, 0), -1);
            SAY.due("near to none", x.near(0, bad), -1);
        }
    }

    private static void dig() {
        RiverVows x = SAY.told(FIVE);
        SAY.due("dig(0, 1)", x.dig(0, 1), 27);
        SAY.due("dig(1, 0)", x.dig(1, 0), 27);
        SAY.due("dig(0, 3): the range is not strictly between", x.dig(0, 3), 10);
        SAY.due("dig(3, 1)", x.dig(3, 1), 10);
        SAY.due("dig(0, 4)", x.dig(0, 4), 117);
        SAY.due("dig(2, 2)", x.dig(2, 2), -1);
        for (int bad : new int[] {-1, 5, LOW, HIGH}) {
            SAY.due("dig of none", x.dig(bad, 0), -1);
            SAY.due("dig to none", x.dig(0, bad), -1);
        }
        RiverVows same = SAY.told(brook("a", 9, 1, 5, "1 1 1 1") + brook("b", 9, 1, 5, "1 1 1 1") + "range 5 thick 9 ;");
        SAY.due("dig at one place", same.dig(0, 1), 0);
    }

    private static void may() {
        RiverVows x = SAY.told(FIVE);
        int[] due = {6, 4, 0, 7, 0};
        for (int r = 0; r < 5; r++) {
            SAY.due("may(" + r + ")", x.may(r), due[r]);
        }
        x.wed(0, 2);
        SAY.due("who is wed may none", x.may(0), 0);
        SAY.due("the proud one has a wife", x.may(1), 0);
        SAY.due("the proud one has a wife", x.may(3), 3);
        x.part(0);
        SAY.due("the proud one is free again", x.may(1), 4);
        for (int bad : new int[] {-1, 5, LOW, HIGH}) {
            SAY.due("may of none", x.may(bad), -1);
        }
        // alike mouths: a ring would close
        RiverVows y = SAY.told(brook("a", 20, 5, 0, "1 1 1 1") + brook("b", 20, 5, 0, "1 1 1 1")
                + brook("c", 20, 5, 0, "1 1 1 1") + brook("low", 5, 4, 0, "1 1 1 1")
                + brook("high", 6, 5, 0, "1 1 1 1"));
        SAY.due("may with alike mouths", y.may(0), 22);
        SAY.due("a spring as high as the mouth does not do", y.may(3), 0);
        y.wed(0, 1);
        y.wed(1, 2);
        SAY.due("no ring", y.may(2), 16);
        SAY.due("a ring is none behind another one", y.may(4), 7);
        String kin = kind("a", "brook", 20, 5, 0, "1 1 1 1") + "; " + kind("b", "brook", 20, 5, 0, "1 1 1 1") + "of a ; "
                + kind("c", "brook", 20, 5, 0, "1 1 1 1") + "of b ; " + kind("d", "brook", 20, 5, 0, "1 1 1 1") + "; ";
        SAY.due("kin 0", SAY.told(kin).may(0), 14);
        SAY.due("kin 1", SAY.told(kin + "kin 1 ;").may(0), 12);
        SAY.due("kin 2", SAY.told(kin + "kin 2 ;").may(0), 8);
        SAY.due("kin 9", SAY.told(kin + "kin 9 ;").may(0), 8);
    }

    private static void ends() {
        RiverVows x = SAY.told(FIVE);
        SAY.due("ends", x.ends(), 16);
        x.wed(0, 1);
        x.wed(3, 0);
        SAY.due("ends as if nobody were wed", x.ends(), 16);
        SAY.due("ends of one", SAY.told(brook("a", 9, 1, 5, "1 1 1 1")).ends(), 1);
        SAY.due("ends of two", SAY.told(TWO).ends(), 0);
        String kin = kind("a", "brook", 20, 5, 0, "1 1 1 1") + "; " + kind("b", "brook", 20, 5, 0, "1 1 1 1") + "of a ; ";
        SAY.due("ends of kin", SAY.told(kin + "kin 1 ;").ends(), 3);
        SAY.due("ends of none", new RiverVows().ends(), 0);
    }

    private static void wed() {
        RiverVows x = SAY.told(FIVE);
        SAY.due("wed(0, 1)", x.wed(0, 1), 35);
        SAY.due("wed again", x.wed(0, 1), -1);
        SAY.due("wed another", x.wed(0, 2), -1);
        SAY.due("wed(3, 0)", x.wed(3, 0), 15);
        SAY.due("wed(1, 2): all of hers flows", x.wed(1, 2), 93);
        SAY.due("wed(2, 2)", x.wed(2, 2), -1);
        SAY.due("wed(4, 2): salt", x.wed(4, 2), -1);
        SAY.due("wed(2, 4): salt", x.wed(2, 4), -1);
        SAY.due("owed to cat", x.river(2, 8), 93);
        SAY.due("owed to ben less what he owes", x.river(1, 8), 35 - 93);
        SAY.due("owed to ada less what she owes", x.river(0, 8), 15 - 35);
        SAY.due("what can be undone", x.count(8), 3);
        for (int bad : new int[] {-1, 5, LOW, HIGH}) {
            SAY.due("wed of none", x.wed(bad, 0), -1);
            SAY.due("wed to none", x.wed(3, bad), -1);
        }
        RiverVows y = SAY.told(TWO + "dowry flow * 20 ;");
        SAY.due("no more than 99", y.wed(0, 1), 99);
        RiverVows z = SAY.told(TWO + "dowry flow ;");
        z.seasons(2);
        SAY.due("flow of this season", z.wed(0, 1), 5);
    }

    private static void part() {
        RiverVows x = SAY.told(FIVE);
        SAY.due("part of one not wed", x.part(0), false);
        x.wed(0, 1);
        SAY.due("part of a husband", x.part(1), false);
        SAY.due("part", x.part(0), true);
        SAY.due("it flows alone", x.flow(1, 5, 0), 20);
        SAY.due("the dowry stays owed", x.river(1, 8), 35);
        SAY.due("part again", x.part(0), false);
        SAY.due("wed again", x.wed(0, 1), 35);
        SAY.due("owed twice", x.river(0, 8), -70);
        for (int bad : new int[] {-1, 5, LOW, HIGH}) {
            SAY.due("part of none", x.part(bad), false);
        }
    }

    private static void seasons() {
        RiverVows x = SAY.told(TWO + "silt flow - 3 ;");
        SAY.due("seasons(1)", x.seasons(1), 1);
        SAY.due("silt of a", x.river(0, 7), 4);
        SAY.due("silt of b", x.river(1, 7), 0);
        SAY.due("seasons(3)", x.seasons(3), 4);
        SAY.due("silt of a year", x.river(0, 7), 4 + 3 + 2 + 1);
        x.wed(0, 1);
        SAY.due("seasons(6)", x.seasons(6), 10);
        SAY.due("silt of a", x.river(0, 7), 10 + 10 + 4 + 3);
        SAY.due("silt of b, by all that flows", x.river(1, 7), 7 + 6 + 5 + 4 + 7 + 6);
        SAY.due("seasons(100)", x.seasons(100), 110);
        SAY.due("silt of a", x.river(0, 7), 27 + 250);
        SAY.due("seasons(0)", x.seasons(0), -1);
        SAY.due("seasons(101)", x.seasons(101), -1);
        SAY.due("seasons(-1)", x.seasons(-1), -1);
        SAY.due("seasons(HIGH)", x.seasons(HIGH), -1);
        SAY.due("passed", x.count(2), 110);
        RiverVows y = SAY.told(TWO + "silt 200 ;");
        y.seasons(4);
        SAY.due("99 each season", y.river(1, 7), 396);
    }

    private static void undo() {
        RiverVows x = SAY.told(TWO + "silt 1 ;");
        x.wed(0, 1);
        x.seasons(2);
        x.part(0);
        x.tell(0, 0, 1);
        Saying.will(x, "heir 5 ;");
        SAY.due("what can be undone", x.count(8), 4);
        SAY.due("undo the part", x.undo(), true);
        SAY.due("wed again", x.river(0, 5), 1);
        SAY.due("undo a season", x.undo(), true);
        SAY.due("passed", x.count(2), 1);
        SAY.due("silt", x.river(0, 7), 1);
        SAY.due("undo a season", x.undo(), true);
        SAY.due("passed", x.count(2), 0);
        SAY.due("owed", x.river(1, 8), 1);
        SAY.due("undo the wedding", x.undo(), true);
        SAY.due("not wed", x.river(0, 5), -1);
        SAY.due("nothing owed", x.river(1, 8), 0);
        SAY.due("nothing left", x.undo(), false);
        SAY.due("told stays", x.count(6), 1);
        SAY.due("the will stays", x.count(5), 1);
        x.wed(1, 0);
        SAY.due("what was refused is nothing to undo", x.count(8), 0);
        x.seasons(20);
        SAY.due("the last 16", x.count(8), 16);
        for (int i = 0; i < 16; i++) {
            SAY.due("undo", x.undo(), true);
        }
        SAY.due("undo no more", x.undo(), false);
        SAY.due("passed", x.count(2), 4);
        SAY.due("silt", x.river(1, 7), 4);
        x.seasons(1);
        SAY.due("undo the one", x.undo(), true);
        SAY.due("passed", x.count(2), 4);
    }

    private static void judged() {
        RiverVows x = SAY.told(kind("a", "brook", 20, 10, 0, "7 6 5 4") + "; "
                + kind("b", "brook", 30, 0, 15, "3 3 3 3") + "mill 3 at 0 town 9 at 9 ; ");
        SAY.due("judged(0) of no vows", x.judged(0), -1);
        SAY.due("judged(1) of no vows", x.judged(1), -1);
        SAY.due("judged(2) of no vows", x.judged(2), 0);
        Saying.vows(x, "season ; wed b a ; season ; part a ; wed a b ; wed a b ; season ; season ; season ;");
        x.seasons(3);
        SAY.due("the first that can't be", x.judged(0), 1);
        SAY.due("flooded in the season then: 7 + 3", x.judged(1), 7);
        SAY.due("weddings", x.judged(2), 1);
        Saying.vows(x, "wed a b ; part a ;");
        SAY.due("all can be", x.judged(0), -1);
        SAY.due("flooded behind the first", x.judged(1), 0);
        SAY.due("none is wed at last", x.judged(2), 0);
        SAY.due("nothing is done", x.count(3), 0);
        SAY.due("judged(3)", x.judged(3), -2);
        SAY.due("judged(-1)", x.judged(-1), -2);
        // A line that is left out is none behind which anything is.
        RiverVows y = SAY.told(kind("a", "brook", 20, 10, 0, "7 6 5 4") + "mill 9 at 10 ; ");
        Saying.vows(y, "part a ; season ;");
        SAY.due("left out", y.judged(0), 0);
        SAY.due("dry behind the next", y.judged(1), 1);
    }

    private static void worn() {
        RiverVows x = SAY.told(FIVE);
        // 2, 1, 1, 2 and 2 of 7
        SAY.due("worn(0, 1)", x.worn(0, 1), 5);
        SAY.due("worn(1, 0)", x.worn(1, 0), 5);
        SAY.due("worn(1, 2)", x.worn(1, 2), 20);
        SAY.due("no range between", x.worn(0, 3), 0);
        SAY.due("never", x.worn(0, 4), -1);
        SAY.due("the same", x.worn(1, 1), -1);
        for (int bad : new int[] {-1, 5, LOW, HIGH}) {
            SAY.due("worn of none", x.worn(bad, 0), -1);
            SAY.due("worn with none", x.worn(0, bad), -1);
        }
        // One a year, in the last season.
        String slow = brook("a", 9, 1, 1, "0 0 0 10") + brook("b", 9, 1, 9, "9 9 9 0") + "range 5 thick 99 ; ";
        SAY.due("just 400", SAY.told(slow + "range 6 thick 1 ;").worn(0, 1), 400);
        SAY.due("over 400", SAY.told(slow + "range 6 thick 2 ;").worn(0, 1), -1);
        SAY.due("396", SAY.told(slow).worn(0, 1), 396);
        SAY.due("love of just 400", SAY.told(slow + "range 6 thick 1 ;").love(0), 1);
        SAY.due("love over 400", SAY.told(slow + "range 6 thick 2 ;").love(0), -1);
        String early = brook("a", 9, 1, 1, "10 0 0 0") + brook("b", 9, 1, 9, "0 9 9 9") + "range 5 thick 99 ; ";
        SAY.due("just 397", SAY.told(early + "range 6 thick 1 ;").worn(0, 1), 397);
        SAY.due("401 is too long", SAY.told(early + "range 6 thick 2 ;").worn(0, 1), -1);
        RiverVows late = SAY.told(slow.replace("99 ;", "1 ;"));
        late.seasons(2);
        SAY.due("from this season on", late.worn(0, 1), 2);
        late.seasons(2);
        SAY.due("from this season on", late.worn(0, 1), 4);
        SAY.due("own water alone, not what flows in", wedWorn(), -1);
    }

    private static int wedWorn() {
        RiverVows x = SAY.told(brook("a", 9, 1, 1, "4 4 4 4") + brook("b", 9, 1, 9, "4 4 4 4")
                + brook("c", 9, 1, 1, "90 90 90 90") + "range 5 thick 1 ; ");
        x.wed(2, 0);
        return x.worn(0, 1);
    }

    private static void love() {
        RiverVows x = SAY.told(FIVE);
        // ada: ben 5, cat by 37 at 1 or 2 a season, dov has no range between, the sea never
        SAY.due("love(0)", x.love(0), 1);
        // ben: ada 5, cat 20
        SAY.due("love(1)", x.love(1), 0);
        SAY.due("love(4)", x.love(4), 1);
        RiverVows y = SAY.told(brook("a", 9, 1, 1, "10 10 10 10") + brook("b", 9, 1, 9, "1 1 1 1")
                + brook("c", 9, 1, 9, "1 1 1 1") + brook("d", 9, 1, 2, "0 0 0 0") + "range 5 thick 9 ;");
        SAY.due("of equal ones the first", y.love(0), 1);
        SAY.due("love(1)", y.love(1), 0);
        SAY.due("nobody", y.love(3), -1);
        SAY.due("nobody behind a range", SAY.told(TWO).love(0), -1);
        for (int bad : new int[] {-1, 5, LOW, HIGH}) {
            SAY.due("love of none", x.love(bad), -1);
        }
    }

    private static void hyphen() {
        RiverVows x = SAY.told(kind("c", "clear", 50, 10, 0, "4 5 6 7") + "; " + brook("high", 90, 30, 0, "0 0 0 0")
                + brook("eightsig", 90, 40, 0, "40 1 2 3"));
        SAY.due("alone", x.hyphen(0), 1);
        x.wed(1, 0);
        SAY.due("c-high", x.hyphen(0), 6);
        x.wed(2, 1);
        SAY.due("c-high-eightsig", x.hyphen(0), 15);
        SAY.due("high-eightsig", x.hyphen(1), 13);
        SAY.due("eightsig", x.hyphen(2), 8);
        for (int bad : new int[] {-1, 3, LOW, HIGH}) {
            SAY.due("hyphen of none", x.hyphen(bad), -1);
        }
    }

    private static void match() {
        RiverVows x = SAY.told(brook("a", 20, 10, 0, "5 5 5 5") + kind("b", "brook", 30, 0, 10, "3 3 3 3")
                + "mill 8 at 5 town 12 at 2 ; " + brook("c", 15, 3, 20, "5 5 5 5"));
        int[] due = {10, 1, 1, 1, -1, -1, -2};
        for (int what = 0; what < due.length; what++) {
            SAY.due("match(" + what + ")", x.match(what), due[what]);
        }
        SAY.due("match(-1)", x.match(-1), -2);
        SAY.due("match(LOW)", x.match(LOW), -2);
        SAY.due("match(HIGH)", x.match(HIGH), -2);
        x.wed(2, 1);
        x.wed(0, 2);
        x.seasons(1);
        SAY.due("who is wed now does not count", x.match(0), 10);
        RiverVows none = SAY.told(FIVE);
        for (int what = 0; what < 9; what++) {
            SAY.due("match(" + what + ") without a way", none.match(what), -2);
        }
        RiverVows free = SAY.told(TWO);
        SAY.due("nobody need be wed", free.match(0), 0);
        SAY.due("nobody need be wed", free.match(1), 0);
        SAY.due("two ways", free.match(2), 2);
        SAY.due("husband of a", free.match(3), -1);
        // In one of four seasons it is too dry.
        RiverVows dry = SAY.told(kind("a", "brook", 20, 10, 0, "5 5 4 5") + "mill 5 at 10 ; ");
        SAY.due("dry in the third season", dry.match(2), -2);
        RiverVows wet = SAY.told(kind("a", "brook", 20, 10, 0, "5 5 5 6") + "town 5 at 10 ; ");
        SAY.due("flooded in the fourth season", wet.match(2), -2);
    }

    private static void matchTies() {
        // c needs 1 more: of a and b, both at distance 5; b to c and a to c dig alike.
        RiverVows x = SAY.told(brook("a", 20, 10, 0, "1 1 1 1") + brook("b", 20, 10, 10, "1 1 1 1")
                + kind("c", "brook", 30, 0, 5, "3 3 3 3") + "mill 4 at 5 ; ");
        SAY.due("digging", x.match(0), 5);
        SAY.due("weddings", x.match(1), 1);
        // none, 2; 2, none; both to c; a to b to c; b to a to c
        SAY.due("ways", x.match(2), 5);
        SAY.due("none is ahead of 0", x.match(3), -1);
        SAY.due("b is wed", x.match(4), 2);
        // All at one place: of digging 0 the fewest weddings.
        RiverVows y = SAY.told(brook("a", 20, 10, 5, "1 1 1 1") + brook("b", 20, 10, 5, "1 1 1 1")
                + kind("c", "brook", 30, 0, 5, "3 3 3 3") + "mill 4 at 5 ; ");
        SAY.due("digging", y.match(0), 0);
        SAY.due("weddings", y.match(1), 1);
        SAY.due("husband of a", y.match(3), -1);
        SAY.due("husband of b", y.match(4), 2);
        StringBuilder six = new StringBuilder();
        for (int i = 0; i < 6; i++) {
            six.append(brook("r" + (char) ('a' + i), 20, 10, 10 * i, "1 1 1 1"));
        }
        SAY.due("all forests of six", SAY.told(six.toString()).match(2), 16807);
    }

    private static void chain() {
        RiverVows x = SAY.told(FIVE);
        x.wed(0, 1);
        SAY.due("digging, of one that is wed now too", x.chain(0, 2, 0), 87);
        SAY.due("fewest weddings of equal digging", x.chain(0, 2, 1), 1);
        SAY.due("the first", x.chain(0, 2, 2), 0);
        SAY.due("the last", x.chain(0, 2, 3), 2);
        SAY.due("no more", x.chain(0, 2, 4), -1);
        SAY.due("none", x.chain(2, 0, 0), -1);
        SAY.due("to the sea", x.chain(0, 4, 0), -1);
        SAY.due("the same", x.chain(1, 1, 0), -1);
        SAY.due("what -1", x.chain(0, 2, -1), -1);
        SAY.due("what HIGH", x.chain(0, 2, HIGH), -1);
        SAY.due("what LOW", x.chain(0, 2, LOW), -1);
        for (int bad : new int[] {-1, 5, LOW, HIGH}) {
            SAY.due("chain from none", x.chain(bad, 0, 0), -1);
            SAY.due("chain to none", x.chain(0, bad, 0), -1);
        }
        // Through one who lies in the pass at 50, where the range is not strictly between; two such.
        RiverVows y = SAY.told(brook("a", 90, 50, 40, "1 1 1 1") + brook("b", 90, 10, 60, "1 1 1 1")
                + brook("q", 90, 30, 50, "1 1 1 1") + brook("p", 90, 30, 50, "1 1 1 1") + "range 50 thick 9 ; ");
        SAY.due("by the pass", y.chain(0, 1, 0), 20);
        SAY.due("weddings", y.chain(0, 1, 1), 2);
        SAY.due("row 0", y.chain(0, 1, 2), 0);
        SAY.due("row 1, the first of equal ones", y.chain(0, 1, 3), 2);
        SAY.due("row 2", y.chain(0, 1, 4), 1);
        SAY.due("row 3", y.chain(0, 1, 5), -1);
    }

    private static void peace() {
        RiverVows x = SAY.told(brook("a", 20, 10, 0, "5 5 5 5") + kind("b", "brook", 30, 0, 10, "3 3 3 3")
                + "mill 8 at 0 town 12 at 0 ; " + brook("c", 15, 3, 20, "5 9 5 5"));
        SAY.due("nobody to part", x.peace(), -1);
        x.wed(0, 1);
        SAY.due("peace already", x.peace(), 0);
        x.wed(2, 1);
        SAY.due("the least set of equal ones", x.peace(), 1);
        x.seasons(1);
        SAY.due("in this season", x.peace(), 1);
        x.part(0);
        SAY.due("12 is no more than 12", x.peace(), 0);
        x.wed(0, 2);
        SAY.due("a from c", x.peace(), 1);
        RiverVows y = SAY.told(brook("a", 20, 10, 0, "5 5 5 5") + kind("b", "brook", 30, 0, 10, "3 3 3 3")
                + "town 7 at 0 ; " + brook("c", 15, 3, 20, "5 9 5 5"));
        y.wed(0, 1);
        y.wed(2, 1);
        SAY.due("both", y.peace(), 5);
        SAY.due("nothing is done", y.count(3), 2);
        RiverVows z = SAY.told(brook("a", 20, 10, 0, "5 5 5 5") + brook("b", 20, 10, 0, "5 5 5 5")
                + brook("c", 20, 10, 0, "10 9 9 9") + kind("d", "brook", 30, 0, 10, "3 3 3 3") + "town 13 at 0 ; ");
        z.wed(0, 3);
        z.wed(1, 3);
        z.wed(2, 3);
        SAY.due("the fewest, though two are the less set", z.peace(), 4);
        SAY.due("peace of none", new RiverVows().peace(), 0);
    }

    private static void cathedral() {
        RiverVows x = SAY.told(FIVE);
        SAY.due("nobody is wed", x.cathedral(0), -1);
        x.wed(3, 0);
        SAY.due("the only one", x.cathedral(0), 3);
        x.wed(0, 1);
        // at dov's mouth ada has 13, at ada's ben has 33
        SAY.due("the greatest", x.cathedral(0), 0);
        RiverVows y = SAY.told(brook("a", 40, 20, 0, "1 1 1 1") + brook("b", 40, 10, 0, "5 0 0 0")
                + brook("c", 40, 20, 0, "1 1 2 2") + kind("d", "clear", 40, 5, 0, "6 1 1 9") + "; ");
        y.wed(0, 1);
        y.wed(2, 3);
        // at a's mouth b has 6 and 1, at c's mouth the clear d has its own alone
        SAY.due("of equal ones the first", y.cathedral(0), 0);
        SAY.due("of equal ones the first", y.cathedral(1), 0);
        SAY.due("another season", y.cathedral(3), 2);
        for (int bad : new int[] {-1, 4, LOW, HIGH}) {
            SAY.due("cathedral of no season", y.cathedral(bad), -1);
        }
    }

    private static void eddies() {
        RiverVows x = SAY.told(brook("a", 40, 20, 0, "1 1 1 1") + brook("b", 40, 20, 0, "5 0 0 0")
                + brook("c", 40, 20, 0, "1 1 2 2") + brook("d", 40, 5, 0, "6 1 1 9") + brook("e", 40, 19, 0, "0 0 0 0"));
        SAY.due("none wed", x.eddies(), 0);
        x.wed(0, 3);
        x.wed(4, 3);
        SAY.due("mouths of other heights", x.eddies(), 0);
        x.wed(1, 3);
        SAY.due("one pair", x.eddies(), 1);
        x.wed(2, 3);
        SAY.due("three pairs", x.eddies(), 3);
        x.part(1);
        x.wed(1, 4);
        SAY.due("of one river only", x.eddies(), 1);
    }

    private static void worst() {
        RiverVows x = SAY.told(FIVE);
        SAY.due("of equal seasons the first", x.worst(1, 0), 0);
        SAY.due("20 + 10 - 40", x.worst(1, 1), -10);
        x.wed(0, 1);
        x.wed(3, 0);
        SAY.due("33 + 30 - 40", x.worst(1, 1), 23);
        throwsWorst(x, 0, 0);
        throwsWorst(x, 1, 2);
        throwsWorst(x, 1, -1);
        throwsWorst(x, -1, 0);
        throwsWorst(x, 5, 0);
        throwsWorst(x, HIGH, 1);
        String town = kind("a", "brook", 20, 10, 0, "1 9 4 9") + "town 5 at 12 ; ";
        SAY.due("the second season", SAY.told(town).worst(0, 0), 1);
        SAY.due("without storms", SAY.told(town).worst(0, 1), 4);
        SAY.due("storms that never come", SAY.told(town + "storm 0 by 9 ;").worst(0, 1), 4);
        SAY.due("storms that come", SAY.told(town + "storm 1 by 9 ;").worst(0, 1), 13);
        RiverVows y = SAY.told(kind("c", "clear", 50, 10, 0, "4 5 6 7") + "town 1 at 11 ; "
                + brook("h", 90, 30, 0, "90 0 0 0") + "storm 1 by 10 ; ");
        y.wed(1, 0);
        SAY.due("a clear one's own alone", y.worst(0, 0), 3);
        SAY.due("a clear one's own alone", y.worst(0, 1), 16);
    }

    private static void share() {
        RiverVows x = SAY.told(FIVE);
        SAY.due("no will", x.share(2, 0, 0), -1);
        x.wed(3, 0);
        Saying.will(x, "heir 3 ; heir 1 ; heir 2 ;");
        int[] due = {7, 2, 4};
        for (int i = 0; i < 3; i++) {
            SAY.due("13 by 3, 1, 2", x.share(0, 0, i), due[i]);
        }
        SAY.due("no such heir", x.share(0, 0, 3), -1);
        SAY.due("no such heir", x.share(0, 0, -1), -1);
        SAY.due("no such season", x.share(0, 4, 0), -1);
        SAY.due("no such season", x.share(0, -1, 0), -1);
        SAY.due("no such river", x.share(5, 0, 0), -1);
        SAY.due("no such river", x.share(-1, 0, 0), -1);
        Saying.will(x, "heir 1 ; heir 1 ; heir 1 ; heir 0 ;");
        // 8 by 3: 2 each, two are left: the first two; 9 by 3 nothing is left
        int[] equal = {3, 3, 2, 0};
        for (int i = 0; i < 4; i++) {
            SAY.due("dov's 5 and ada's 8 are 13", x.share(0, 0, i), new int[] {5, 4, 4, 0}[i]);
            SAY.due("ada's 11", x.share(0, 3, i), new int[] {4, 4, 3, 0}[i]);
            SAY.due("cat's 9", x.share(2, 0, i), new int[] {3, 3, 3, 0}[i]);
        }
        x.part(3);
        for (int i = 0; i < 4; i++) {
            SAY.due("ada's 8", x.share(0, 0, i), equal[i]);
        }
        Saying.will(x, "heir 0 ; heir 0 ;");
        SAY.due("no wants", x.share(0, 0, 1), 0);
        Saying.will(x, "");
        SAY.due("no heirs", x.share(0, 0, 0), -1);
        Saying.will(x, "heir 1 ; heir 2 ;");
        // 8 * 1 / 3 is 2 and two thirds, 8 * 2 / 3 is 5 and one third
        SAY.due("the greatest rest", x.share(0, 0, 0), 3);
        SAY.due("the smaller rest", x.share(0, 0, 1), 5);
    }

    private static void storms() {
        RiverVows x = SAY.told(FIVE);
        SAY.due("30 is no more than 40", x.storms(1, 0), 0);
        x.wed(0, 1);
        SAY.due("28: both storms", x.storms(1, 0), 40000);
        x.wed(3, 0);
        SAY.due("33: any storm", x.storms(1, 0), 488000);
        SAY.due("19: all three", x.storms(1, 1), 8000);
        SAY.due("no town", x.storms(0, 0), -1);
        SAY.due("no river", x.storms(5, 0), -1);
        SAY.due("no river", x.storms(-1, 0), -1);
        SAY.due("no season", x.storms(1, 4), -1);
        SAY.due("no season", x.storms(1, -1), -1);
        String clear = kind("c", "clear", 50, 10, 0, "4 5 6 7") + "town 10 at 11 ; " + brook("h", 90, 30, 0, "90 0 0 0");
        RiverVows y = SAY.told(clear + "storm 3 by 7 ; ");
        y.wed(1, 0);
        SAY.due("a clear one's own alone", y.storms(0, 0), 300000);
        RiverVows sure = SAY.told(clear + "storm 10 by 7 ; ");
        SAY.due("sure", sure.storms(0, 0), 1000000);
        SAY.due("never", SAY.told(clear + "storm 0 by 99 ; ").storms(0, 0), 0);
        SAY.due("just held", SAY.told(clear + "storm 10 by 6 ; ").storms(0, 0), 0);
        SAY.due("without a storm", SAY.told(clear).storms(0, 0), 0);
    }

    private static void walls() {
        RiverVows x = SAY.told(FIVE);
        x.wed(0, 1);
        x.wed(3, 0);
        SAY.due("all", x.walls(1, 0, 1000000), 0);
        SAY.due("any storm less than sure", x.walls(1, 0, 999999), 33);
        SAY.due("any storm", x.walls(1, 0, 488000), 33);
        SAY.due("two storms", x.walls(1, 0, 487999), 43);
        SAY.due("two storms", x.walls(1, 0, 104000), 43);
        SAY.due("three storms", x.walls(1, 0, 103999), 53);
        SAY.due("no flood at all", x.walls(1, 0, 0), 63);
        SAY.due("too few", x.walls(1, 0, -1), -1);
        SAY.due("too many", x.walls(1, 0, 1000001), -1);
        SAY.due("no town", x.walls(0, 0, 5), -1);
        SAY.due("no river", x.walls(9, 0, 5), -1);
        SAY.due("no season", x.walls(1, 4, 5), -1);
        SAY.due("no season", x.walls(1, -1, 5), -1);
        RiverVows y = SAY.told(kind("a", "brook", 20, 10, 0, "0 9 4 9") + "town 5 at 12 ; ");
        SAY.due("nothing flows", y.walls(0, 0, 0), 0);
        SAY.due("without storms", y.walls(0, 1, 0), 9);
        StringBuilder six = new StringBuilder(kind("ra", "brook", 20, 10, 0, "1 1 1 1") + "town 6 at 10 ; ");
        for (int i = 1; i < 6; i++) {
            six.append(brook("r" + (char) ('a' + i), 20, 10, 10 * i, "1 1 1 1"));
        }
        RiverVows z = SAY.told(six + "storm 1 by 99 ;");
        for (int i = 1; i < 6; i++) {
            z.wed(i, 0);
        }
        SAY.due("six storms", z.walls(0, 0, 0), 6 + 6 * 99);
        SAY.due("but for one chance in a million", z.walls(0, 0, 1), 6 + 5 * 99);
        SAY.due("any of six", z.storms(0, 0), 1000000 - 531441);
    }

    private static void tell() {
        RiverVows x = SAY.told(TWO);
        SAY.due("too little", x.tell(0, 0, -1), false);
        SAY.due("too much", x.tell(0, 0, 10000), false);
        SAY.due("no season", x.tell(0, 4, 1), false);
        SAY.due("no season", x.tell(0, -1, 1), false);
        SAY.due("no river", x.tell(2, 0, 1), false);
        SAY.due("no river", x.tell(-1, 0, 1), false);
        SAY.due("none told", x.count(6), 0);
        SAY.due("0", x.tell(0, 0, 0), true);
        SAY.due("9999", x.tell(1, 3, 9999), true);
        for (int i = 2; i < 10; i++) {
            SAY.due("the same once more", x.tell(0, 0, 0), true);
        }
        SAY.due("ten are told", x.count(6), 10);
        SAY.due("an eleventh", x.tell(0, 0, 0), false);
        SAY.due("ten are told", x.count(6), 10);
    }

    private static void found() {
        RiverVows x = SAY.told(FIVE);
        SAY.due("all ways", x.found(0), 17);
        SAY.due("cat has none in all", x.found(4), -1);
        SAY.due("ada has not the same", x.found(2), -2);
        x.tell(2, 0, 42);
        int[] due = {2, 0, 1, 2, -1, -2, -1, -3};
        for (int what = 0; what < due.length; what++) {
            SAY.due("found(" + what + ")", x.found(what), due[what]);
        }
        SAY.due("found(-1)", x.found(-1), -3);
        SAY.due("found(LOW)", x.found(LOW), -3);
        SAY.due("found(HIGH)", x.found(HIGH), -3);
        x.tell(0, 1, 9);
        SAY.due("one is left", x.found(0), 1);
        SAY.due("none parts them", x.found(1), -1);
        SAY.due("dov's is ada", x.found(5), 0);
        x.tell(0, 1, 8);
        SAY.due("none is left", x.found(0), 0);
        for (int what = 1; what < 7; what++) {
            SAY.due("found(" + what + ") of none", x.found(what), -3);
        }
        // Mills and towns do not matter: two ways, and only at b's mouth do they differ.
        RiverVows y = SAY.told(kind("a", "brook", 20, 10, 0, "0 0 6 0") + "; "
                + kind("b", "brook", 30, 0, 15, "3 3 3 3") + "mill 999 at 5 ; ");
        SAY.due("two ways", y.found(0), 2);
        SAY.due("b in the third season", y.found(1), 6);
        RiverVows z = SAY.told(brook("a", 20, 10, 0, "0 0 0 0") + brook("b", 30, 0, 15, "3 3 3 3"));
        SAY.due("two ways that nothing parts", z.found(1), -1);
        SAY.due("two ways that nothing parts", z.found(2), -2);
    }

    private static void rests() {
        // worth 5 for the first two: at rest are (4,4), (4,5), (5,5)
        String land = brook("w", 50, 20, 0, "29 100").replace("29 100", "29 0 99 9") + brook("a", 40, 10, 0, "1 1 1 1")
                + brook("b", 40, 10, 0, "1 1 1 1") + brook("c", 20, 10, 0, "1 1 1 1");
        RiverVows x = SAY.told(land);
        SAY.due("how many", x.rests(0, 1, 2, -1), 3);
        SAY.due("the first", x.rests(0, 1, 2, 0), 44);
        SAY.due("the second", x.rests(0, 1, 2, 1), 45);
        SAY.due("the third", x.rests(0, 1, 2, 2), 55);
        SAY.due("no fourth", x.rests(0, 1, 2, 3), -1);
        SAY.due("what -2", x.rests(0, 1, 2, -2), -1);
        SAY.due("what HIGH", x.rests(0, 1, 2, HIGH), -1);
        SAY.due("c springs no higher than w ends", x.rests(0, 1, 3, -1), -1);
        SAY.due("the same", x.rests(0, 1, 1, -1), -1);
        SAY.due("itself", x.rests(0, 0, 1, -1), -1);
        for (int bad : new int[] {-1, 4, LOW, HIGH}) {
            SAY.due("rests of none", x.rests(bad, 1, 2, -1), -1);
            SAY.due("rests with none", x.rests(0, bad, 2, -1), -1);
            SAY.due("rests with none", x.rests(0, 1, bad, -1), -1);
        }
        x.seasons(1);
        // worth nothing: (0,0) only, for a bid of 1 that wins is less than 0
        SAY.due("worth nothing", x.rests(0, 1, 2, -1), 1);
        SAY.due("worth nothing", x.rests(0, 1, 2, 0), 0);
        x.seasons(1);
        // worth 19: nobody can bid more than 9
        SAY.due("worth much", x.rests(0, 1, 2, -1), 1);
        SAY.due("worth much", x.rests(0, 1, 2, 0), 99);
        x.seasons(1);
        // worth 1: (0,0), (0,1), (1,1)
        SAY.due("worth 1", x.rests(0, 1, 2, -1), 3);
        SAY.due("worth 1", x.rests(0, 1, 2, 1), 1);
        x.wed(0, 1);
        SAY.due("it is wed", x.rests(0, 1, 2, -1), -1);
    }

    private static void dams() {
        RiverVows x = SAY.told(brook("a", 20, 10, 0, "7 4 0 99") + brook("b", 30, 0, 15, "5 6 0 21"));
        SAY.due("7 and 5: wins", x.dams(0, 1, 0), 1);
        SAY.due("7 and 5: 2 from the first", x.dams(0, 1, 1), 2);
        SAY.due("5 and 7: wins", x.dams(1, 0, 0), 1);
        SAY.due("5 and 7: 2 from the first, to 3 and 7", x.dams(1, 0, 1), 2);
        x.seasons(1);
        SAY.due("4 and 6: 2 from the first", x.dams(0, 1, 1), 2);
        SAY.due("6 and 4: 2 from the first", x.dams(1, 0, 1), 2);
        x.seasons(1);
        SAY.due("nothing at both: loses", x.dams(0, 1, 0), 0);
        SAY.due("nothing at both: no take", x.dams(0, 1, 1), -1);
        x.seasons(1);
        SAY.due("20 and 20: loses", x.dams(0, 1, 0), 0);
        SAY.due("the same", x.dams(0, 0, 0), -1);
        SAY.due("what 2", x.dams(0, 1, 2), -1);
        SAY.due("what -1", x.dams(0, 1, -1), -1);
        for (int bad : new int[] {-1, 2, LOW, HIGH}) {
            SAY.due("dams of none", x.dams(bad, 0, 0), -1);
            SAY.due("dams with none", x.dams(0, bad, 0), -1);
        }
        RiverVows y = SAY.told(brook("a", 20, 10, 0, "0 1 2 3") + brook("b", 30, 0, 15, "3 5 8 3")
                + brook("c", 90, 50, 0, "9 9 9 9"));
        y.wed(2, 0);
        SAY.due("own water alone: 3 from the second", y.dams(0, 1, 1), 6);
        SAY.due("3 from the first", y.dams(1, 0, 1), 3);
        y.seasons(1);
        SAY.due("1 and 5: loses", y.dams(0, 1, 0), 0);
        y.seasons(1);
        SAY.due("2 and 8: 2 from the first", y.dams(0, 1, 1), 2);
    }

    private static void centuries() {
        RiverVows x = SAY.told(kind("a", "brook", 20, 10, 0, "7 6 5 4") + "mill 4 at 10 ; "
                + kind("b", "brook", 30, 0, 15, "3 3 3 3") + "town 8 at 9 ; ");
        // Seed 13 draws 0, a drought: 3 is less than 4.
        SAY.due("a drought: dry", x.centuries(13, 1, 0), 1);
        SAY.due("a drought: flooded", x.centuries(13, 1, 1), 0);
        SAY.due("seed 0 draws 0 as well", x.centuries(0, 1, 0), 1);
        // Seed 70 draws 1, 0 and 1: a weds b, and 10 flow by the town.
        SAY.due("an elopement: weddings", x.centuries(70, 1, 2), 1);
        SAY.due("an elopement: flooded", x.centuries(70, 1, 1), 1);
        SAY.due("an elopement: dry", x.centuries(70, 1, 0), 0);
        SAY.due("all is as ahead", x.count(3), 0);
        // Seed 11 draws 1, 0 and 1 too, then 8, below the 10 of nothing: the second season floods as well.
        SAY.due("the next season: flooded", x.centuries(11, 2, 1), 2);
        x.wed(0, 1);
        SAY.due("a drought when wed: 3 and 1", x.centuries(13, 1, 1), 0);
        // Seed 40 draws 2, then 0: a parts; seed 9 draws 2, then b, who is not wed.
        SAY.due("a divorce", x.centuries(40, 1, 2), 0);
        SAY.due("no divorce", x.centuries(9, 1, 2), 1);
        SAY.due("a divorce: flooded", x.centuries(40, 1, 1), 0);
        SAY.due("no divorce: flooded", x.centuries(9, 1, 1), 1);
        SAY.due("all is as ahead", x.count(3), 1);
        SAY.due("all is as ahead", x.count(2), 0);
        x.seasons(3);
        SAY.due("from this season on: 7", x.centuries(9, 1, 1), 0);
        for (int bad : new int[] {-1, 10000, LOW, HIGH}) {
            SAY.due("no such seed", x.centuries(bad, 1, 0), -1);
        }
        for (int bad : new int[] {-1, 0, 101, LOW, HIGH}) {
            SAY.due("no such seasons", x.centuries(1, bad, 0), -1);
        }
        for (int bad : new int[] {-1, 3, LOW, HIGH}) {
            SAY.due("no such what", x.centuries(1, 1, bad), -1);
        }
        SAY.due("the last seed", x.centuries(9999, 100, 2) >= 0, true);
        SAY.due("no river", new RiverVows().centuries(1, 1, 0), -1);
    }

    private static void mark() {
        RiverVows x = SAY.told(TWO + "silt 1 ;");
        Saying.vows(x, "season ;");
        Saying.will(x, "heir 5 ; heir 6 ;");
        x.wed(0, 1);
        x.seasons(2);
        x.tell(0, 0, 7);
        SAY.due("lay 0", x.mark(0, false), true);
        SAY.due("laying leaves what can be undone", x.count(8), 3);
        x.part(0);
        x.seasons(1);
        x.tell(1, 0, 7);
        Saying.will(x, "heir 9 ;");
        Saying.vows(x, "season ; season ;");
        SAY.due("found before", x.found(0), 0);
        SAY.due("lay 3", x.mark(3, false), true);
        SAY.due("back to 0", x.mark(0, true), true);
        int[] due = {2, 0, 2, 1, 2, 2, 1, 0, 0, 0};
        for (int what = 0; what < 10; what++) {
            SAY.due("count(" + what + ") at mark 0", x.count(what), due[what]);
        }
        SAY.due("silt", x.river(0, 7), 2);
        SAY.due("owed", x.river(1, 8), 1);
        SAY.due("the will", x.share(1, 0, 0), 5);
        SAY.due("found behind", x.found(0), 2);
        SAY.due("nothing can be undone", x.undo(), false);
        x.part(0);
        SAY.due("back to 0 again", x.mark(0, true), true);
        SAY.due("wed again", x.count(3), 1);
        SAY.due("back to 3", x.mark(3, true), true);
        SAY.due("passed", x.count(2), 3);
        SAY.due("told", x.count(6), 2);
        SAY.due("heirs", x.count(5), 1);
        SAY.due("lay 3 anew", x.mark(3, false), true);
        SAY.due("nothing is on 1", x.mark(1, true), false);
        SAY.due("nothing is on 2", x.mark(2, true), false);
        for (int bad : new int[] {-1, 4, LOW, HIGH}) {
            SAY.due("no such mark", x.mark(bad, false), false);
            SAY.due("no such mark", x.mark(bad, true), false);
        }
        RiverVows y = SAY.told(TWO);
        y.mark(1, false);
        Saying.will(y, "heir 1 ;");
        y.mark(1, true);
        SAY.due("no will again", y.count(5), -1);
    }

    private static void count() {
        RiverVows x = SAY.told(FIVE + "kin 4 ;");
        Saying.vows(x, "season ; season ; season ;");
        Saying.will(x, "heir 1 ; heir 2 ;");
        x.tell(0, 0, 0);
        x.seasons(6);
        x.wed(3, 0);
        Saying.feed(x, "kin 1 ;");
        int[] due = {5, 2, 6, 1, 3, 2, 1, 4, 7, 7};
        for (int what = 0; what < 10; what++) {
            SAY.due("count(" + what + ")", x.count(what), due[what]);
        }
        for (int bad : new int[] {-1, 10, LOW, HIGH}) {
            SAY.due("count of nothing", x.count(bad), -1);
        }
    }
}
