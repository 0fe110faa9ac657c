/** Edges of digging, wearing, love, names, ways to wed, chains, peace, meetings; promises 18 to 25. */
final class WayEdges {
    private static final int LOW = Integer.MIN_VALUE;
    private static final int HIGH = Integer.MAX_VALUE;

    private final Saying say;

    WayEdges(Saying say) {
        this.say = say;
    }

    void all() {
        digging();
        wornByTenths();
        wornUpTo400();
        worn();
        loveSoonest();
        love();
        hyphen();
        waysOfMatch();
        needsOfMatch();
        bestOfMatch();
        match();
        chainOfWeddings();
        bestChain();
        chain();
        peace();
        cathedral();
        eddies();
    }

    private static String at(String name, int place, int water) {
        return Texts.brook(name, 50, 20, place, Texts.always(water));
    }

    /** So many brooks that each may wed each, at places 0, 10, 20 .. with water 1. */
    private static String alike(int many) {
        StringBuilder text = new StringBuilder();
        for (int i = 0; i < many; i++) {
            text.append(at("r" + (char) ('a' + i), 10 * i, 1));
        }
        return text.toString();
    }

    // ---- digging

    private void digging() {
        say.says(0, "DIGGING of a wedding: how far both places are apart, and the thickness of each range strictly "
                + "between them.");
        String two = at("a", 10, 1) + at("b", 30, 1);
        RiverVows x = say.told(two + "range 10 thick 1 ; range 11 thick 2 ; range 29 thick 4 ; range 30 thick 8 ;");
        say.due("two between, two not", x.dig(0, 1), 26);
        say.due("the other way", x.dig(1, 0), 26);
        RiverVows out = say.told(two + "range 9 thick 1 ; range 31 thick 2 ; range 0 thick 4 ; range 99 thick 8 ;");
        say.due("none between", out.dig(0, 1), 20);
        String far = at("a", 0, 1) + at("b", 99, 1);
        say.due("all the way", say.told(far).dig(0, 1), 99);
        say.due("ranges at the ends", say.told(far + "range 0 thick 99 ; range 99 thick 99 ;").dig(0, 1), 99);
        say.due("ranges beside the ends", say.told(far + "range 1 thick 99 ; range 98 thick 99 ; range 50 thick 99 ; "
                + "range 51 thick 99 ;").dig(1, 0), 99 + 396);
        RiverVows here = say.told(at("a", 5, 1) + at("b", 5, 1) + at("c", 6, 1) + "range 5 thick 9 ; range 6 thick 9 ;");
        say.due("one place", here.dig(0, 1), 0);
        say.due("side by side", here.dig(0, 2), 1);
    }

    // ---- worn and love

    /** Worn by two of so much water in each season with one range of this thickness between. */
    private void wears(int one, int other, int thick, int want) {
        RiverVows x = say.told(at("a", 10, one) + at("b", 30, other) + "range 20 thick " + thick + " ;");
        say.due("worn by " + one + " and " + other + " at " + thick, x.worn(0, 1), want);
        say.due("worn the other way", x.worn(1, 0), want);
    }

    private void wornByTenths() {
        say.says(0, "WORN: two RIVERS wear at all ranges between them: each season from this one on by a tenth, cut, of "
                + "both's own water together");
        wears(4, 5, 1, -1);
        wears(5, 5, 1, 1);
        wears(9, 9, 2, 2);
        wears(10, 9, 2, 2);
        wears(10, 10, 2, 1);
        wears(15, 15, 6, 2);
        wears(15, 15, 7, 3);
        wears(99, 99, 99, 6);
        wears(0, 0, 1, -1);
        String two = at("a", 10, 5) + at("b", 30, 5);
        String ranges = "range 10 thick 9 ; range 11 thick 3 ; range 29 thick 2 ; range 30 thick 9 ;";
        say.due("all ranges between", say.told(two + ranges).worn(0, 1), 5);
        RiverVows wed = say.told(two + at("c", 0, 99) + "range 20 thick 9 ;");
        wed.wed(2, 0);
        say.due("own water alone", wed.worn(0, 1), 9);
        RiverVows x = say.told(Texts.brook("a", 50, 20, 10, "0 10 0 30") + at("b", 30, 0) + "range 20 thick 3 ;");
        int[] due = {4, 3, 2, 1, 4};
        for (int one : due) {
            say.due("from this season on", x.worn(0, 1), one);
            x.seasons(1);
        }
    }

    private void wornUpTo400() {
        say.says(0, "behind how many seasons all is gone (thick together; 0: there is none), 400 at most.");
        wears(5, 5, 99, 99);
        say.due("no range", say.told(at("a", 10, 5) + at("b", 30, 5)).worn(0, 1), 0);
        say.due("no range, no water", say.told(at("a", 10, 0) + at("b", 30, 0)).worn(0, 1), 0);
        say.due("a range at one's place", say.told(at("a", 10, 5) + at("b", 30, 5) + "range 10 thick 5 ;").worn(0, 1), 0);
        String four = "range 11 thick 99 ; range 12 thick 99 ; range 13 thick 99 ; range 14 thick 99 ;";
        say.due("four of 99", say.told(at("a", 10, 5) + at("b", 30, 5) + four).worn(0, 1), 396);
        // One a year, in the last season, the third, and in the first.
        String[] waters = {"0 0 0 10", "0 0 10 0", "10 0 0 0"};
        int[] hundred = {400, 399, 397};
        for (int i = 0; i < 3; i++) {
            String two = Texts.brook("a", 50, 20, 10, waters[i]) + at("b", 30, 0) + "range 20 thick 99 ; ";
            say.due("99 years", say.told(two).worn(0, 1), hundred[i] - 4);
            say.due("100 years", say.told(two + "range 21 thick 1 ;").worn(0, 1), hundred[i]);
            say.due("101 years", say.told(two + "range 21 thick 2 ;").worn(0, 1), -1);
        }
    }

    private void worn() {
        say.says(18, "WORN by two; NONE: others, the same, not within 400 seasons.");
        RiverVows x = say.told(alike(6) + "range 5 thick 1 ;");
        for (int r = 0; r < 6; r++) {
            say.due("the same", x.worn(r, r), -1);
        }
        for (int bad : new int[] {-1, 6, LOW, HIGH}) {
            say.due("worn of none", x.worn(bad, 0), -1);
            say.due("worn with none", x.worn(0, bad), -1);
        }
        say.due("never", x.worn(0, 1), -1);
        say.due("none between", x.worn(1, 5), 0);
    }

    private void loveSoonest() {
        say.says(0, "LOVE of a RIVER: the one with whom it is WORN the soonest of those behind a range (strictly between "
                + "both), of equal ones the first.");
        String range = "range 20 thick 30 ;";
        say.due("the soonest", say.told(at("a", 10, 0) + at("b", 30, 10) + at("c", 30, 30) + at("d", 30, 20) + range)
                .love(0), 2);
        say.due("of equal ones the first", say.told(at("a", 10, 0) + at("b", 30, 10) + at("c", 30, 30)
                + at("d", 30, 39) + range).love(0), 2);
        say.due("who is ahead of it counts too", say.told(at("b", 30, 30) + at("c", 30, 39) + at("a", 10, 0) + range)
                .love(2), 0);
        say.due("no range between does not count", say.told(at("a", 10, 0) + at("b", 15, 99) + at("c", 30, 10) + range)
                .love(0), 2);
        say.due("a range at his place does not count", say.told(at("a", 10, 0) + at("b", 20, 99) + at("c", 21, 10) + range)
                .love(0), 2);
        say.due("a range at its own place does not count", say.told(at("a", 20, 0) + at("b", 90, 99) + range).love(0), -1);
        // In the first season a pair has 10, another in the fourth: who is sooner hangs on the season.
        RiverVows x = say.told(Texts.brook("a", 50, 20, 10, "0 0 0 0") + Texts.brook("b", 50, 20, 30, "10 0 0 0")
                + Texts.brook("c", 50, 20, 30, "0 0 0 10") + "range 20 thick 1 ;");
        say.due("in the first season", x.love(0), 1);
        x.seasons(1);
        say.due("in the second", x.love(0), 2);
    }

    private void love() {
        say.says(19, "LOVE; NONE: others, none.");
        String two = Texts.brook("a", 50, 20, 10, "0 0 0 10") + at("b", 30, 0) + "range 20 thick 99 ; ";
        say.due("within 400 seasons", say.told(two + "range 21 thick 1 ;").love(0), 1);
        say.due("not within 400 seasons", say.told(two + "range 21 thick 2 ;").love(0), -1);
        say.due("alone", say.told(at("a", 10, 9) + "range 20 thick 9 ;").love(0), -1);
        RiverVows x = say.told(alike(6));
        for (int bad : new int[] {0, 5, -1, 6, LOW, HIGH}) {
            say.due("love(" + bad + ")", x.love(bad), -1);
        }
    }

    private void hyphen() {
        say.says(0, "HYPHEN: the letters of the names of all whose water is in its FLOW at its mouth, and a stroke between "
                + "each two.");
        String[] names = {"a", "bb", "eightsig", "dddd", "lettersz", "fff"};
        StringBuilder land = new StringBuilder();
        for (String name : names) {
            land.append(at(name, 0, 0));
        }
        RiverVows x = say.told(land.toString());
        for (int r = 0; r < 6; r++) {
            say.due("alone", x.hyphen(r), names[r].length());
        }
        int signs = 1;
        for (int r = 0; r < 5; r++) {
            x.wed(r, r + 1);
            signs += 1 + names[r + 1].length();
            say.due("with all that flow into it", x.hyphen(r + 1), signs);
            say.due("with no more", x.hyphen(r), signs - 1 - names[r + 1].length());
        }
        x.part(2);
        say.due("without who parted", x.hyphen(5), 4 + 8 + 3 + 2);
        for (int length = 1; length <= 8; length++) {
            RiverVows alone = say.told(at("a".repeat(length), 0, 1) + at("z".repeat(length), 0, 1));
            say.due("a so often", alone.hyphen(0), length);
            say.due("z so often", alone.hyphen(1), length);
            alone.wed(0, 1);
            say.due("both", alone.hyphen(1), 2 * length + 1);
        }
        RiverVows clear = say.told(at("aa", 0, 1) + Texts.river("ccc", "clear", 50, 20, 0, "1 1 1 1", "")
                + Texts.brook("dddd", 50, 10, 0, "1 1 1 1"));
        clear.wed(0, 1);
        clear.wed(1, 2);
        say.due("all of a clear one's at its mouth", clear.hyphen(1), 6);
        say.due("all of a clear one's behind it", clear.hyphen(2), 11);
        say.says(20, "HYPHEN: how many letters and strokes; NONE: others.");
        for (int bad : new int[] {-1, 3, 6, LOW, HIGH}) {
            say.due("hyphen(" + bad + ")", clear.hyphen(bad), -1);
        }
    }

    // ---- match

    private void waysOfMatch() {
        say.says(0, "MATCH: of all ways in which RIVERS can be wed (each into another one or none, from nobody wed on, wife "
                + "by wife, by numbers, as each may WED then)");
        // Forests with roots over so many: (n + 1) to the power of (n - 1).
        int[] due = {1, 1, 3, 16, 125, 1296, 16807};
        for (int many = 0; many <= 6; many++) {
            say.due("ways of " + many, say.told(alike(many)).match(2), due[many]);
        }
        String two = Texts.even("a", 50, 20, 1, "") + Texts.even("b", 50, 20, 1, "");
        say.due("a proud one takes one", say.told(two + Texts.river("p", "proud", 60, 0, 0, "1 1 1 1", "")).match(2), 7);
        say.due("another takes both", say.told(two + Texts.even("p", 60, 0, 1, "")).match(2), 8);
        say.due("salt takes none", say.told(two + Texts.river("s", "salt", 60, 0, 0, "1 1 1 1", "")).match(2), 3);
        String kin = Texts.even("a", 50, 20, 1, "") + Texts.even("b", 50, 20, 1, "of a");
        say.due("kin wed none", say.told(kin + "kin 1 ;").match(2), 1);
        RiverVows x = say.told(alike(3));
        x.wed(0, 1);
        x.wed(1, 2);
        say.due("from nobody wed on", x.match(2), 16);
    }

    private void needsOfMatch() {
        say.says(0, "those by which in all four seasons no mill is DRY and no town FLOODED");
        for (int season = 0; season < 4; season++) {
            StringBuilder less = new StringBuilder();
            StringBuilder more = new StringBuilder();
            for (int s = 0; s < 4; s++) {
                less.append(s == season ? "4 " : "5 ");
                more.append(s == season ? "6 " : "5 ");
            }
            String even = Texts.always(5);
            RiverVows served = say.told(Texts.river("a", "brook", 20, 10, 0, even, "mill 5 at 10 town 5 at 10"));
            say.due("5 of 5", served.match(2), 1);
            RiverVows dry = say.told(Texts.river("a", "brook", 20, 10, 0, less.toString(), "mill 5 at 10"));
            say.due("dry in season " + season, dry.match(2), -2);
            RiverVows wet = say.told(Texts.river("a", "brook", 20, 10, 0, more.toString(), "town 5 at 10"));
            say.due("flooded in season " + season, wet.match(2), -2);
        }
        String mill = Texts.brook("a", 50, 20, 0, "1 0 0 0") + Texts.brook("b", 50, 20, 10, "0 1 1 1");
        RiverVows x = say.told(mill + Texts.river("c", "brook", 60, 0, 5, "3 3 3 3", "mill 4 at 5"));
        say.due("only both serve all seasons", x.match(1), 2);
        say.due("both into c, or one by the other", x.match(2), 3);
    }

    private void bestOfMatch() {
        say.says(0, "the least DIGGING together");
        String mill = Texts.brook("c", 60, 0, 50, "3 3 3 3").replace(" ;", "mill 5 at 5 ;");
        RiverVows near = say.told(at("a", 10, 1) + at("b", 20, 1) + mill);
        // a to b to c: 10 and 30; a to c and b to c: 40 and 30; b to a to c: 10 and 40
        say.due("together", near.match(0), 40);
        say.due("a into b", near.match(3), 1);
        say.due("b into c", near.match(4), 2);
        say.due("c into none", near.match(5), -1);
        say.due("three ways", near.match(2), 3);
        RiverVows range = say.told(at("a", 10, 1) + at("b", 20, 1) + mill + "range 15 thick 99 ; range 16 thick 99 ;");
        say.due("ranges count", range.match(0), 40 + 198);
        say.says(0, "of equal ones the fewest weddings, then the first (husbands in a row, none ahead of 0).");
        String one = mill.replace("mill 5", "mill 4");
        RiverVows few = say.told(at("a", 50, 1) + at("b", 50, 1) + one);
        say.due("digging 0", few.match(0), 0);
        say.due("one wedding", few.match(1), 1);
        say.due("none is ahead of 0", few.match(3), -1);
        say.due("so b is wed", few.match(4), 2);
        // a gives to b or to c, both 10 away, who both need nothing; d needs a, by b or c
        RiverVows first = say.told(Texts.brook("a", 50, 40, 10, "1 1 1 1") + Texts.brook("b", 45, 20, 20, "0 0 0 0")
                + Texts.brook("c", 45, 20, 20, "0 0 0 0")
                + Texts.river("d", "brook", 30, 0, 30, "0 0 0 0", "mill 1 at 0"));
        say.due("two weddings", first.match(1), 2);
        say.due("digging", first.match(0), 20);
        say.due("0 .. ahead of 1 ..: a into b", first.match(3), 1);
        say.due("b into d", first.match(4), 3);
        say.due("c into none", first.match(5), -1);
        say.says(0, "How many such ways there are.");
        say.due("a by b, a by c, either with the other one wed as well", first.match(2), 8);
    }

    private void match() {
        say.says(21, "MATCH, what 0: DIGGING, 1: weddings, 2: how many ways; 3 + r: the husband of a RIVER (NONE: none); "
                + "-2: others, no way.");
        RiverVows x = say.told(alike(6));
        int[] due = {0, 0, 16807, -1, -1, -1, -1, -1, -1, -2};
        for (int what = 0; what < due.length; what++) {
            say.due("match(" + what + ")", x.match(what), due[what]);
        }
        for (int bad : new int[] {-1, -2, LOW, HIGH}) {
            say.due("match(" + bad + ")", x.match(bad), -2);
        }
        RiverVows one = say.told(at("a", 0, 1));
        say.due("match(3) of one", one.match(3), -1);
        say.due("match(4) of one", one.match(4), -2);
        RiverVows none = say.told(Texts.even("a", 50, 20, 1, "mill 2 at 20"));
        for (int what = -1; what < 5; what++) {
            say.due("match(" + what + ") without a way", none.match(what), -2);
        }
        RiverVows other = say.told(alike(2));
        say.due("ways", other.match(2), 3);
        Saying.land(other, alike(3));
        say.due("ways of another land", other.match(2), 16);
        Saying.land(other, "!");
        say.due("ways behind a fault", other.match(2), 16);
    }

    // ---- chain

    /** Six of which each may wed only the next one. */
    private static String stairs() {
        StringBuilder text = new StringBuilder();
        for (int i = 0; i < 6; i++) {
            text.append(Texts.brook("r" + (char) ('a' + i), 71 - 10 * i, 60 - 10 * i, 10 * i, "1 1 1 1"));
        }
        return text.toString();
    }

    private void chainOfWeddings() {
        say.says(0, "CHAIN from one to another: weddings one behind another (each as it may WED with only those ahead wed) by "
                + "which the first one's water comes into the last");
        RiverVows x = say.told(stairs());
        for (int from = 0; from < 6; from++) {
            for (int to = 0; to < 6; to++) {
                say.due("chain(" + from + ", " + to + ", 1)", x.chain(from, to, 1), from < to ? to - from : -1);
                say.due("chain(" + from + ", " + to + ", 0)", x.chain(from, to, 0), from < to ? 10 * (to - from) : -1);
            }
        }
        for (int i = 0; i < 6; i++) {
            say.due("row " + i, x.chain(0, 5, 2 + i), i);
        }
        x.wed(0, 1);
        x.wed(2, 3);
        say.due("who is wed now does not count", x.chain(0, 5, 1), 5);
        String back = Texts.brook("z", 45, 10, 0, "1 1 1 1") + Texts.brook("y", 55, 40, 10, "1 1 1 1")
                + Texts.brook("x", 65, 50, 20, "1 1 1 1");
        RiverVows down = say.told(back);
        say.due("from the last to the first told", down.chain(2, 0, 0), 20);
        say.due("from the last to the first told", down.chain(2, 0, 1), 2);
        say.due("from the last to the first told", down.chain(2, 0, 4), 0);
        RiverVows salt = say.told(stairs().replaceFirst("rd brook", "rd salt"));
        say.due("not by salt", salt.chain(0, 5, 0), -1);
        say.due("up to it", salt.chain(0, 2, 0), 20);
        RiverVows proud = say.told(stairs().replace("brook", "proud"));
        say.due("each proud one takes one", proud.chain(0, 5, 1), 5);
        RiverVows kin = say.told(stairs().replace("place 20 water 1 1 1 1  ;", "place 20 water 1 1 1 1 of rb ;") + "kin 1 ;");
        say.due("not by kin", kin.chain(0, 5, 0), -1);
    }

    private void bestChain() {
        say.says(0, "the least DIGGING together; of equal ones the fewest weddings, then the first row of RIVERS.");
        String ends = Texts.brook("a", 90, 50, 40, "1 1 1 1") + Texts.brook("b", 90, 10, 60, "1 1 1 1");
        RiverVows pass = say.told(ends + Texts.brook("c", 90, 30, 50, "1 1 1 1") + "range 50 thick 1 ;");
        say.due("by the pass", pass.chain(0, 1, 0), 20);
        say.due("by the pass", pass.chain(0, 1, 3), 2);
        RiverVows plain = say.told(ends + Texts.brook("c", 90, 30, 50, "1 1 1 1"));
        say.due("as far by both", plain.chain(0, 1, 0), 20);
        say.due("the fewest weddings", plain.chain(0, 1, 1), 1);
        say.due("straight", plain.chain(0, 1, 3), 1);
        say.due("no third", plain.chain(0, 1, 4), -1);
        String two = Texts.brook("c", 90, 30, 50, "1 1 1 1") + Texts.brook("d", 90, 30, 50, "1 1 1 1");
        RiverVows rows = say.told(ends + two + "range 50 thick 1 ;");
        say.due("the first row", rows.chain(0, 1, 3), 2);
        RiverVows higher = say.told(Texts.brook("d", 90, 30, 50, "1 1 1 1") + ends + two.replace("river d", "river e")
                + "range 50 thick 1 ;");
        say.due("the first row", higher.chain(1, 2, 3), 0);
        // First by c, which has two ways on, 3 and 4: the lower one is taken behind the lower one.
        RiverVows longer = say.told(Texts.brook("a", 90, 80, 10, "1 1 1 1") + Texts.brook("z", 15, 0, 40, "1 1 1 1")
                + Texts.brook("c", 85, 50, 20, "1 1 1 1") + Texts.brook("e", 55, 10, 30, "1 1 1 1")
                + Texts.brook("f", 55, 10, 30, "1 1 1 1") + Texts.brook("d", 85, 50, 20, "1 1 1 1"));
        int[] row = {30, 3, 0, 2, 3, 1, -1};
        for (int what = 0; what < row.length; what++) {
            say.due("chain(0, 1, " + what + ")", longer.chain(0, 1, what), row[what]);
        }
    }

    private void chain() {
        say.says(22, "CHAIN, what 0: DIGGING, 1: weddings, 2 + i: the i-th RIVER of the row (the first one, too); NONE: "
                + "others, the same, none.");
        RiverVows x = say.told(stairs());
        int[] due = {20, 2, 1, 2, 3, -1, -1};
        for (int what = 0; what < due.length; what++) {
            say.due("chain(1, 3, " + what + ")", x.chain(1, 3, what), due[what]);
        }
        say.due("the last of all", x.chain(0, 5, 7), 5);
        say.due("no more", x.chain(0, 5, 8), -1);
        for (int bad : new int[] {-1, LOW, HIGH}) {
            say.due("what " + bad, x.chain(1, 3, bad), -1);
        }
        for (int bad : new int[] {-1, 6, LOW, HIGH}) {
            say.due("from " + bad, x.chain(bad, 3, 0), -1);
            say.due("to " + bad, x.chain(1, bad, 0), -1);
        }
        for (int what = 0; what < 4; what++) {
            say.due("the same", x.chain(2, 2, what), -1);
            say.due("none", x.chain(3, 1, what), -1);
        }
    }

    // ---- peace, cathedral, eddies

    private void peace() {
        say.says(0, "PEACE: the fewest that PART now by which no mill is DRY, no town FLOODED in this season; of equal ones the "
                + "least set (bits).");
        String wives = Texts.even("a", 50, 20, 5, "") + Texts.even("b", 50, 20, 5, "") + Texts.even("c", 50, 20, 10, "");
        int[][] due = {{23, 0}, {22, 1}, {18, 1}, {17, 4}, {13, 4}, {12, 5}, {8, 5}, {7, 7}, {3, 7}, {2, -1}};
        for (int[] one : due) {
            RiverVows x = say.told(wives + Texts.even("d", 60, 0, 3, "town " + one[0] + " at 0"));
            x.wed(0, 3);
            x.wed(1, 3);
            x.wed(2, 3);
            say.due("the town holds " + one[0], x.peace(), one[1]);
            say.due("nothing is done", x.count(3), 3);
        }
        RiverVows mill = say.told(wives + Texts.even("d", 60, 0, 3, "mill 8 at 0 town 17 at 0"));
        mill.wed(0, 3);
        mill.wed(1, 3);
        mill.wed(2, 3);
        say.due("the mill wants one to stay", mill.peace(), 4);
        RiverVows both = say.told(wives + Texts.even("d", 60, 0, 3, "mill 8 at 0 town 7 at 0"));
        both.wed(0, 3);
        both.wed(1, 3);
        say.due("too much with one, too little with none", both.peace(), -1);
        RiverVows season = say.told(Texts.brook("a", 50, 20, 0, "5 1 1 1") + Texts.even("b", 60, 0, 3, "town 7 at 0"));
        season.wed(0, 1);
        say.due("in this season", season.peace(), 1);
        season.seasons(1);
        say.due("in this season", season.peace(), 0);
        RiverVows six = say.told(alike(5) + Texts.even("rf", 50, 20, 1, "mill 1 at 20 town 1 at 20"));
        for (int r = 0; r < 5; r++) {
            six.wed(r, 5);
        }
        say.due("five part from the sixth", six.peace(), 31);
        six.part(0);
        say.due("four part from the sixth", six.peace(), 30);
        say.says(23, "PEACE, as bits; NONE: it can't be.");
        RiverVows alone = say.told(Texts.even("a", 50, 20, 5, "mill 6 at 20"));
        say.due("nobody can part", alone.peace(), -1);
        say.due("nothing is to do", say.told(Texts.even("a", 50, 20, 5, "mill 5 at 20 town 5 at 20")).peace(), 0);
        say.due("no river", new RiverVows().peace(), 0);
    }

    private void cathedral() {
        say.says(0, "CATHEDRAL of a season: the wife at whose mouth her husband's FLOW is the greatest; of equal ones the first.");
        String land = Texts.brook("a", 50, 30, 0, "9 1 0 0") + Texts.brook("b", 50, 20, 0, "1 9 0 0")
                + Texts.brook("c", 60, 10, 0, "1 1 1 1") + Texts.brook("d", 60, 10, 0, "1 1 3 0");
        RiverVows x = say.told(land);
        x.wed(0, 2);
        x.wed(1, 3);
        int[] due = {0, 1, 1, 0};
        for (int season = 0; season < 4; season++) {
            say.due("season " + season, x.cathedral(season), due[season]);
        }
        x.part(1);
        x.wed(1, 2);
        say.due("lower down there is more", x.cathedral(0), 1);
        say.due("as much: the first", x.cathedral(3), 0);
        RiverVows clear = say.told(land.replace("c brook", "c clear"));
        clear.wed(0, 2);
        clear.wed(1, 3);
        say.due("a clear husband has his own alone there", clear.cathedral(0), 1);
        RiverVows six = say.told(alike(6));
        six.wed(5, 4);
        say.due("the last of six", six.cathedral(0), 5);
        six.wed(4, 0);
        say.due("the last but one of six", six.cathedral(0), 4);
        say.says(24, "CATHEDRAL of a season; NONE: others, nobody is wed.");
        RiverVows y = say.told(land);
        say.due("nobody is wed", y.cathedral(0), -1);
        y.wed(0, 2);
        say.due("one is", y.cathedral(0), 0);
        say.due("one is, season 3", y.cathedral(3), 0);
        for (int bad : new int[] {-1, 4, LOW, HIGH}) {
            say.due("cathedral(" + bad + ")", y.cathedral(bad), -1);
        }
        RiverVows dry = say.told(Texts.even("a", 50, 20, 0, "") + Texts.even("b", 50, 20, 0, ""));
        dry.wed(1, 0);
        say.due("a wife where nothing flows", dry.cathedral(2), 1);
    }

    private void eddies() {
        say.says(0, "EDDIES: pairs of wives of one RIVER whose mouths are as high.");
        say.says(25, "EDDIES.");
        RiverVows x = say.told(alike(6));
        say.due("nobody is wed", x.eddies(), 0);
        for (int wives = 1; wives <= 5; wives++) {
            x.wed(wives, 0);
            say.due(wives + " wives", x.eddies(), wives * (wives - 1) / 2);
        }
        RiverVows y = say.told(Texts.even("a", 50, 20, 1, "") + Texts.even("b", 50, 21, 1, "") + Texts.even("c", 50, 20, 1, "")
                + Texts.even("d", 50, 0, 1, "") + Texts.even("e", 50, 0, 1, ""));
        y.wed(0, 3);
        y.wed(1, 3);
        say.due("one higher", y.eddies(), 0);
        y.wed(2, 4);
        say.due("of another river", y.eddies(), 0);
        y.part(2);
        y.wed(2, 3);
        say.due("as high", y.eddies(), 1);
        say.due("no river", new RiverVows().eddies(), 0);
    }
}
