import java.util.NoSuchElementException;

/** Edges of who may wed, of flow, of what is done by hand and of vows judged; promises 1 and 6 to 17. */
final class BondEdges {
    private static final int LOW = Integer.MIN_VALUE;
    private static final int HIGH = Integer.MAX_VALUE;
    private static final String[] KINDS = {"brook", "proud", "clear", "salt"};
    private static final String TWO = Texts.brook("a", 20, 10, 0, "7 6 5 4") + Texts.brook("b", 30, 0, 15, "3 3 3 3");

    private final Saying say;

    BondEdges(Saying say) {
        this.say = say;
    }

    void all() {
        newObject();
        flowsIntoHusband();
        saltAndWed();
        heights();
        kin();
        rings();
        proud();
        near();
        flow();
        clear();
        dryAndFlooded();
        dowry();
        part();
        season();
        undo();
        judgedCan();
        judgedNeeds();
        river();
        flowArguments();
        needsNearDig();
        mayAndEnds();
        wedAndPart();
        seasonsAndUndo();
        judged();
    }

    // ---- promise 1

    private void newObject() {
        say.says(1, "Nothing.");
        RiverVows x = new RiverVows();
        say.due("no RIVER", x.count(0), 0);
        throwsRiver(x, 0, 0);
        say.due("needs", x.needs(0) + x.needs(1), 0);
        say.due("ends", x.ends(), 0);
        say.due("may", x.may(0), -1);
        say.due("wed", x.wed(0, 1), -1);
        say.due("part", x.part(0), false);
        say.due("undo", x.undo(), false);
        say.due("judged", x.judged(0) + 10 * x.judged(1) + 100 * x.judged(2), -11);
        say.due("no way but one: nobody is wed", x.match(2), 1);
        say.due("peace already", x.peace(), 0);
        say.due("tell", x.tell(0, 0, 0), false);
        say.due("a mark may be laid", x.mark(0, false), true);
        say.due("a season may pass", x.seasons(1), 1);
        say.due("and be undone", x.undo(), true);
        say.due("passed", x.count(2), 0);
    }

    private void throwsRiver(RiverVows x, int river, int what) {
        int thrown = 0;
        try {
            x.river(river, what);
        } catch (NoSuchElementException e) {
            thrown = 1;
        }
        say.due("river(" + river + ", " + what + ") throws", thrown, 1);
    }

    // ---- who may wed

    private void flowsIntoHusband() {
        say.says(0, "A RIVER wed flows into its husband at its mouth's height.");
        RiverVows x = say.told(Texts.even("a", 50, 20, 5, "") + Texts.even("b", 60, 0, 1, ""));
        x.wed(0, 1);
        say.due("right above its mouth", x.flow(1, 21, 0), 1);
        say.due("at its mouth", x.flow(1, 20, 0), 6);
        say.due("below", x.flow(1, 19, 0), 6);
        say.due("at his mouth", x.flow(1, 0, 0), 6);
    }

    private static String pair(String hers, String his) {
        return Texts.river("a", hers, 50, 20, 0, "1 1 1 1", "") + Texts.river("b", his, 50, 20, 0, "1 1 1 1", "");
    }

    private void saltAndWed() {
        say.says(0, "It may WED another one, if neither is salt, it is not wed");
        for (String hers : KINDS) {
            for (String his : KINDS) {
                boolean salt = hers.equals("salt") || his.equals("salt");
                say.due(hers + " weds " + his, say.told(pair(hers, his)).wed(0, 1), salt ? -1 : 1);
            }
        }
        RiverVows x = say.told(pair("brook", "brook") + Texts.even("c", 50, 20, 1, ""));
        say.due("itself", x.wed(0, 0), -1);
        say.due("not wed", x.wed(0, 1), 1);
        say.due("wed to him", x.wed(0, 1), -1);
        say.due("wed to another", x.wed(0, 2), -1);
        say.due("who is wed may have a wife", x.wed(2, 0), 1);
        say.due("who has a wife may wed", x.part(0), true);
        say.due("who has a wife may wed", x.wed(0, 1), 1);
    }

    /** Whether one from 50 to 20 may wed one of these heights. */
    private void meets(int from, int to, boolean may) {
        RiverVows x = say.told(Texts.even("a", 50, 20, 1, "") + Texts.even("b", from, to, 1, ""));
        say.due("may wed one from " + from + " to " + to, x.may(0), may ? 2 : 0);
        say.due("weds one from " + from + " to " + to, x.wed(0, 1), may ? 1 : -1);
    }

    private void heights() {
        say.says(0, "its mouth is no lower than his");
        meets(60, 19, true);
        meets(60, 20, true);
        meets(60, 21, false);
        meets(99, 0, true);
        meets(99, 98, false);
        say.says(0, "his spring is higher than its mouth");
        meets(22, 5, true);
        meets(21, 5, true);
        meets(20, 5, false);
        meets(19, 5, false);
        meets(21, 20, true);
        meets(1, 0, false);
    }

    /** A line of mothers: each is of the one ahead. */
    private static String line(int many) {
        StringBuilder text = new StringBuilder(Texts.even("ra", 50, 20, 1, ""));
        for (int i = 1; i < many; i++) {
            text.append(Texts.even("r" + (char) ('a' + i), 50, 20, 1, "of r" + (char) ('a' + i - 1)));
        }
        return text.toString();
    }

    private void kin() {
        say.says(0, "they are not too near kin");
        for (int steps = 1; steps <= 5; steps++) {
            say.due(steps + " steps, kin " + steps, say.told(line(6) + "kin " + steps + " ;").wed(0, steps), -1);
            say.due(steps + " steps, kin less", say.told(line(6) + "kin " + (steps - 1) + " ;").wed(0, steps), 1);
            say.due(steps + " steps back, kin " + steps, say.told(line(6) + "kin " + steps + " ;").wed(steps, 0), -1);
            say.due(steps + " steps back, kin less", say.told(line(6) + "kin " + (steps - 1) + " ;").wed(steps, 0), 1);
        }
        say.says(0, "too near if that is no more than kin.");
        say.due("mother and child, kin 0", say.told(line(2)).wed(1, 0), 1);
        say.due("mother and child, kin 1", say.told(line(2) + "kin 1 ;").wed(1, 0), -1);
        say.due("none is kin, kin 9", say.told(TWO + "kin 9 ;").wed(0, 1), 1);
        String sisters = line(2) + Texts.even("rc", 50, 20, 1, "of ra");
        say.due("sisters, kin 1", say.told(sisters + "kin 1 ;").wed(1, 2), 1);
        say.due("sisters, kin 2", say.told(sisters + "kin 2 ;").wed(1, 2), -1);
    }

    private void rings() {
        say.says(0, "and he (or whoever he flows into, and so on) does not flow into it");
        String five = Texts.even("a", 50, 20, 1, "") + Texts.even("b", 50, 20, 1, "") + Texts.even("c", 50, 20, 1, "")
                + Texts.even("d", 50, 20, 1, "") + Texts.even("e", 50, 20, 1, "") + Texts.even("f", 50, 20, 1, "");
        RiverVows x = say.told(five);
        for (int r = 0; r < 5; r++) {
            say.due("weds the next", x.wed(r, r + 1), 1);
            for (int back = 0; back <= r; back++) {
                say.due("weds one that flows into it", x.wed(r + 1, back), -1);
            }
        }
        say.due("may none", x.may(5), 0);
        x.part(2);
        say.due("behind a divorce", x.may(5), 7);
        say.due("behind a divorce", x.may(2), 56);
        say.due("a ring is none where none flows back", x.wed(5, 0), 1);
        say.due("now it would be", x.wed(2, 3), -1);
        say.due("now it would be", x.wed(2, 5), -1);
    }

    private void proud() {
        say.says(0, "a proud one takes no more than one wife.");
        String land = Texts.even("a", 50, 20, 1, "") + Texts.even("b", 50, 20, 1, "")
                + Texts.river("p", "proud", 50, 20, 0, "1 1 1 1", "") + Texts.even("d", 50, 20, 1, "");
        RiverVows x = say.told(land);
        say.due("the first wife", x.wed(0, 2), 1);
        say.due("a second", x.wed(1, 2), -1);
        say.due("a wife of his wife", x.wed(1, 0), 1);
        say.due("no more", x.may(3), 3);
        say.due("he weds himself", x.wed(2, 3), 1);
        say.due("still no more", x.wed(1, 2), -1);
        x.part(0);
        x.part(1);
        say.due("one again", x.wed(1, 2), 1);
        say.due("no second again", x.wed(0, 2), -1);
        RiverVows brook = say.told(land.replace("proud", "brook"));
        say.due("another takes more", brook.wed(0, 2) + brook.wed(1, 2) + brook.wed(3, 2), 3);
    }

    private void near() {
        say.says(0, "NEAR are two by how many steps from mother to child or back lead from one to the other (99: none "
                + "do)");
        RiverVows x = say.told(line(6));
        for (int one = 0; one < 6; one++) {
            for (int other = 0; other < 6; other++) {
                say.due("near(" + one + ", " + other + ")", x.near(one, other), Math.abs(one - other));
            }
        }
        RiverVows y = say.told(line(3) + Texts.even("rd", 50, 20, 1, "of ra") + Texts.even("re", 50, 20, 1, "of rd")
                + Texts.even("rf", 50, 20, 1, ""));
        say.due("cousins", y.near(2, 4), 4);
        say.due("an aunt", y.near(2, 3), 3);
        say.due("none", y.near(0, 5), 99);
        say.due("none", y.near(5, 4), 99);
    }

    // ---- flow, dry, flooded

    private void flow() {
        say.says(0, "FLOW of a RIVER at a height in a season: if it springs no lower than there and its mouth is no "
                + "higher: its water in that season");
        RiverVows x = say.told(Texts.brook("a", 50, 20, 0, "4 5 6 7"));
        for (int season = 0; season < 4; season++) {
            say.due("above the spring", x.flow(0, 51, season), -1);
            say.due("at the spring", x.flow(0, 50, season), 4 + season);
            say.due("at the mouth", x.flow(0, 20, season), 4 + season);
            say.due("below the mouth", x.flow(0, 19, season), -1);
        }
        RiverVows ends = say.told(Texts.even("a", 99, 0, 8, "") + Texts.even("b", 1, 0, 8, ""));
        say.due("at 99", ends.flow(0, 99, 0), 8);
        say.due("at 0", ends.flow(0, 0, 0), 8);
        say.due("at 1", ends.flow(1, 1, 0), 8);
        say.due("at 2", ends.flow(1, 2, 0), -1);
        say.says(0, "and all of each wife whose mouth is no lower than that height (at her own mouth).");
        RiverVows y = say.told(Texts.even("a", 90, 40, 10, "") + Texts.even("b", 90, 30, 20, "")
                + Texts.even("c", 90, 0, 1, "") + Texts.even("d", 90, 40, 50, ""));
        y.wed(0, 2);
        y.wed(1, 2);
        y.wed(3, 1);
        int[][] due = {{41, 1}, {40, 11}, {31, 11}, {30, 81}, {0, 81}};
        for (int[] one : due) {
            say.due("at " + one[0], y.flow(2, one[0], 0), one[1]);
        }
        say.due("hers above her wife", y.flow(1, 41, 0), 20);
        say.due("hers at her wife's mouth", y.flow(1, 40, 0), 70);
    }

    private void clear() {
        say.says(0, "A clear one has no more than its own water, whoever flows into it, above its mouth; all of it at "
                + "the mouth.");
        RiverVows x = say.told(Texts.even("a", 90, 40, 10, "") + Texts.even("b", 90, 20, 20, "")
                + Texts.river("c", "clear", 80, 20, 0, "1 2 3 4", "") + Texts.even("d", 99, 0, 5, ""));
        x.wed(0, 2);
        x.wed(1, 2);
        say.due("at the spring", x.flow(2, 80, 3), 4);
        say.due("at its wife's mouth", x.flow(2, 40, 3), 4);
        say.due("right above its mouth", x.flow(2, 21, 3), 4);
        say.due("at its mouth", x.flow(2, 20, 3), 34);
        x.wed(2, 3);
        say.due("all of it comes to its husband", x.flow(3, 20, 3), 39);
        say.due("nothing of it comes higher", x.flow(3, 21, 3), 5);
    }

    private void dryAndFlooded() {
        say.says(0, "DRY is a mill whose want is more than the FLOW at its height");
        for (int want = 9; want <= 11; want++) {
            RiverVows x = say.told(Texts.even("a", 50, 20, 10, "mill " + want + " at 30"));
            say.due("wants " + want + " of 10", x.needs(0), want > 10 ? 1 : 0);
        }
        for (int at = 39; at <= 41; at++) {
            RiverVows x = say.told(Texts.even("a", 90, 40, 10, "") + Texts.even("b", 90, 0, 5, "mill 15 at " + at));
            x.wed(0, 1);
            say.due("a mill at " + at, x.needs(0), at > 40 ? 2 : 0);
        }
        say.due("wants 1 of nothing", say.told(Texts.even("a", 50, 20, 0, "mill 1 at 30")).needs(0), 1);
        say.due("wants 999", say.told(Texts.even("a", 50, 20, 99, "mill 999 at 30")).needs(0), 1);
        say.says(0, "FLOODED a town that holds less.");
        for (int holds = 9; holds <= 11; holds++) {
            RiverVows x = say.told(Texts.even("a", 50, 20, 10, "town " + holds + " at 30"));
            say.due("holds " + holds + " of 10", x.needs(1), holds < 10 ? 1 : 0);
        }
        for (int at = 39; at <= 41; at++) {
            RiverVows x = say.told(Texts.even("a", 90, 40, 10, "") + Texts.even("b", 90, 0, 5, "town 14 at " + at));
            x.wed(0, 1);
            say.due("a town at " + at, x.needs(1), at > 40 ? 0 : 2);
        }
        say.due("holds 0 of nothing", say.told(Texts.even("a", 50, 20, 0, "town 0 at 30")).needs(1), 0);
        say.due("holds 0 of 1", say.told(Texts.even("a", 50, 20, 1, "town 0 at 30")).needs(1), 1);
    }

    // ---- by hand

    private void dowry() {
        say.says(0, "By hand: WED: the DOWRY is owed by the wife's valley to the husband's: the E of dowry");
        RiverVows x = say.told(TWO + Texts.even("c", 40, 15, 3, "") + "dowry flow * 2 ;");
        say.due("the dowry", x.wed(0, 1), 14);
        say.due("hers", x.river(0, 8), -14);
        say.due("his", x.river(1, 8), 14);
        say.due("another one's", x.wed(2, 1), 6);
        say.due("his", x.river(1, 8), 20);
        say.due("hers", x.river(2, 8), -6);
        x.part(0);
        x.part(2);
        x.wed(2, 0);
        x.wed(0, 1);
        say.due("owed and owing", x.river(0, 8), -14 + 6 - 20);
        say.says(0, "(flow, fall hers; 0 if it is below, 99 above).");
        int[][] due = {{-9999, 0}, {-1, 0}, {0, 0}, {1, 1}, {98, 98}, {99, 99}, {100, 99}, {9999, 99}};
        for (int[] one : due) {
            String told = one[0] < 0 ? "0 - " + -one[0] : String.valueOf(one[0]);
            RiverVows y = say.told(TWO + "dowry " + told + " ;");
            say.due("a dowry of " + one[0], y.wed(0, 1), one[1]);
            say.due("owed for " + one[0], y.river(1, 8), one[1]);
            say.due("owing for " + one[0], y.river(0, 8), -one[1]);
        }
        say.due("flow is hers", say.told(TWO + "dowry flow ;").wed(0, 1), 7);
        say.due("fall is hers", say.told(TWO + "dowry fall ;").wed(0, 1), 10);
    }

    private void part() {
        say.says(0, "PART: it flows alone again; the dowry stays owed.");
        RiverVows x = say.told(TWO + "dowry 5 ;");
        x.wed(0, 1);
        say.due("together", x.flow(1, 0, 0), 10);
        say.due("parts", x.part(0), true);
        say.due("alone", x.flow(1, 0, 0), 3);
        say.due("alone", x.flow(0, 10, 0), 7);
        say.due("no husband", x.river(0, 5), -1);
        say.due("no wives", x.river(1, 6), 0);
        say.due("owed", x.river(1, 8), 5);
        say.due("owing", x.river(0, 8), -5);
    }

    private void season() {
        say.says(0, "SEASON: each RIVER's silt grows by the E of silt (0 to 99 likewise); then the next one comes");
        RiverVows x = say.told(TWO + "silt flow - 5 ;");
        x.wed(0, 1);
        int[][] due = {{2, 5}, {3, 9}, {3, 12}, {3, 14}, {5, 19}};
        for (int[] one : due) {
            x.seasons(1);
            say.due("silt of a", x.river(0, 7), one[0]);
            say.due("silt of b", x.river(1, 7), one[1]);
        }
        int[][] bounds = {{-9999, 0}, {-1, 0}, {0, 0}, {1, 1}, {98, 98}, {99, 99}, {100, 99}, {9999, 99}};
        for (int[] one : bounds) {
            String told = one[0] < 0 ? "0 - " + -one[0] : String.valueOf(one[0]);
            RiverVows y = say.told(TWO + "silt " + told + " ;");
            y.seasons(1);
            say.due("silt of " + one[0], y.river(0, 7), one[1]);
            y.seasons(2);
            say.due("silt of " + one[0] + " three times", y.river(1, 7), 3 * one[1]);
        }
        RiverVows six = say.told(line(6) + "silt flow ;");
        six.wed(4, 5);
        six.seasons(3);
        say.due("silt of the first of six", six.river(0, 7), 3);
        say.due("silt of the last of six", six.river(5, 7), 6);
        say.says(0, "(behind the fourth the first again).");
        RiverVows z = say.told(Texts.river("a", "brook", 20, 10, 0, "7 6 5 4", "mill 7 at 10 town 4 at 10"));
        int[][] needs = {{0, 1}, {1, 1}, {1, 1}, {1, 0}, {0, 1}, {1, 1}};
        for (int[] one : needs) {
            say.due("dry", z.needs(0), one[0]);
            say.due("flooded", z.needs(1), one[1]);
            z.seasons(1);
        }
    }

    private void undo() {
        say.says(0, "UNDO: these, the last 16, one by one.");
        for (int deeds : new int[] {1, 15, 16, 17, 40}) {
            RiverVows x = say.told(TWO + "silt 1 ;");
            for (int i = 0; i < deeds; i++) {
                say.due("a deed", i % 3 == 0 ? x.wed(0, 1) == 1 : i % 3 == 1 ? x.seasons(1) > 0 : x.part(0), true);
            }
            int kept = Math.min(deeds, 16);
            say.due("what can be undone", x.count(8), kept);
            for (int left = kept; left > 0; left--) {
                say.due("undo", x.undo(), true);
                say.due("left", x.count(8), left - 1);
                int stand = deeds - kept + left - 1;
                say.due("wed", x.count(3), stand % 3 == 0 ? 0 : 1);
                say.due("passed", x.count(2), (stand + 1) / 3);
                say.due("silt", x.river(0, 7), (stand + 1) / 3);
                say.due("owed", x.river(1, 8), (stand + 2) / 3);
            }
            say.due("no more", x.undo(), false);
            say.due("no more", x.count(8), 0);
        }
        RiverVows y = say.told(TWO);
        y.seasons(3);
        say.due("three seasons are three", y.count(8), 3);
        y.seasons(14);
        say.due("seventeen seasons are sixteen", y.count(8), 16);
        say.due("one by one", y.undo(), true);
        say.due("one by one", y.count(2), 16);
        y.seasons(1);
        say.due("a deed behind an undo", y.count(8), 16);
    }

    // ---- vows judged

    private static final String NEEDY = Texts.brook("a", 20, 10, 0, "7 6 5 4")
            + Texts.river("b", "brook", 30, 0, 15, "3 3 3 3", "mill 3 at 0 town 9 at 9");

    private void judgedCan() {
        say.says(0, "JUDGED: the VOWS from the begin: the first line (from 0) that can't be (season always can)");
        RiverVows x = say.told(NEEDY);
        String[] vows = {"part a ;", "wed b a ;", "wed a b ; wed a b ;", "wed a b ; part a ; part a ;",
            "season ; wed a b ; part b ;", "wed a b ; wed b a ;", "season ; ".repeat(23) + "part a ;", "", "season ;",
            "wed a b ; part a ; wed a b ;", "season ; ".repeat(24)};
        int[] due = {0, 0, 1, 2, 2, 1, 23, -1, -1, -1, -1};
        for (int i = 0; i < vows.length; i++) {
            say.due("vows", Saying.vows(x, vows[i]), 0);
            say.due("judged(0): " + vows[i], x.judged(0), due[i]);
        }
        Saying.vows(x, "wed a b ;");
        x.wed(0, 1);
        x.seasons(3);
        say.due("from the begin, not from now", x.judged(0), -1);
        say.due("flooded in season 0, not in this one", x.judged(1), 0);
    }

    private void judgedNeeds() {
        say.says(0, "lines that can't be are left out: the first line behind which a mill is DRY or a town FLOODED in the "
                + "season then");
        RiverVows x = say.told(NEEDY);
        String[] vows = {"", "season ;", "wed a b ;", "season ; wed a b ;", "season ; season ; season ; wed a b ; season ;",
            "wed b a ; wed a b ;", "part a ; part a ; season ; part a ;", "wed a b ; part a ;"};
        int[] due = {-1, -1, 0, -1, 4, 1, -1, 0};
        for (int i = 0; i < vows.length; i++) {
            Saying.vows(x, vows[i]);
            say.due("judged(1): " + vows[i], x.judged(1), due[i]);
        }
        RiverVows dry = say.told(Texts.river("a", "brook", 20, 10, 0, "7 6 5 4", "mill 6 at 10"));
        Saying.vows(dry, "season ; season ;");
        say.due("6 of 6, then of 5", dry.judged(1), 1);
        Saying.vows(dry, "part a ; season ; part a ; season ; part a ;");
        say.due("behind a line that is done", dry.judged(1), 3);
        say.says(0, "how many weddings there are at last.");
        int[] weddings = {0, 0, 1, 1, 1, 1, 0, 0};
        for (int i = 0; i < vows.length; i++) {
            Saying.vows(x, vows[i]);
            say.due("judged(2): " + vows[i], x.judged(2), weddings[i]);
        }
        RiverVows six = say.told(line(6));
        Saying.vows(six, "wed ra rb ; wed rb rc ; wed rc rd ; wed rd re ; wed re rf ; wed rf ra ;");
        say.due("five weddings", six.judged(2), 5);
        say.due("the ring can't be", six.judged(0), 5);
    }

    // ---- promises 6 to 12

    private void river() {
        say.says(6, "Of a RIVER, what 0: KIND (0 brook, 1 proud, 2 clear, 3 salt), 1: from, 2: to, 3: place, 4: its mother "
                + "(NONE: none), 5: husband, 6: wives as bits, 7: silt, 8: what its valley is owed less what it owes; "
                + "NONE: none.");
        RiverVows x = say.told(Texts.river("p", "proud", 99, 98, 99, "0 0 0 0", "") + Texts.even("a", 40, 20, 7, "of p")
                + Texts.even("b", 40, 20, 8, "of a") + Texts.even("c", 30, 0, 9, "") + "silt fall ;");
        x.wed(1, 3);
        x.wed(2, 3);
        x.seasons(1);
        int[][] due = {{1, 99, 98, 99, -1, -1, 0, 1, 0}, {0, 40, 20, 0, 0, 3, 0, 20, -1},
            {0, 40, 20, 0, 1, 3, 0, 20, -1}, {0, 30, 0, 0, -1, -1, 6, 30, 2}};
        for (int r = 0; r < 4; r++) {
            for (int what = 0; what < 9; what++) {
                say.due("river(" + r + ", " + what + ")", x.river(r, what), due[r][what]);
            }
        }
        say.says(6, "NoSuchElementException: others.");
        for (int bad : new int[] {-1, 9, LOW, HIGH}) {
            throwsRiver(x, 0, bad);
            throwsRiver(x, 3, bad);
        }
        for (int bad : new int[] {-1, 4, 6, LOW, HIGH}) {
            for (int what = 0; what < 9; what++) {
                throwsRiver(x, bad, what);
            }
        }
        RiverVows six = say.told(line(6));
        say.due("the sixth", six.river(5, 4), 4);
        throwsRiver(six, 6, 0);
        for (int r = 0; r < 5; r++) {
            six.wed(r, 5);
            say.due("wives of the sixth", six.river(5, 6), (2 << r) - 1);
        }
        say.due("no wives of the first", six.river(0, 6), 0);
    }

    private void flowArguments() {
        say.says(7, "FLOW at a height (0 to 99) in a season (0 to 3); NONE: others, it is not there.");
        RiverVows x = say.told(Texts.brook("a", 99, 0, 0, "4 5 6 7") + Texts.even("b", 50, 20, 1, ""));
        say.due("height 0, season 0", x.flow(0, 0, 0), 4);
        say.due("height 99, season 3", x.flow(0, 99, 3), 7);
        say.due("height -1", x.flow(0, -1, 0), -1);
        say.due("height 100", x.flow(0, 100, 0), -1);
        say.due("season -1", x.flow(0, 0, -1), -1);
        say.due("season 4", x.flow(0, 0, 4), -1);
        say.due("river -1", x.flow(-1, 0, 0), -1);
        say.due("river 2", x.flow(2, 0, 0), -1);
        say.due("it is not there: 51", x.flow(1, 51, 0), -1);
        say.due("it is there: 50", x.flow(1, 50, 0), 1);
        say.due("it is there: 20", x.flow(1, 20, 0), 1);
        say.due("it is not there: 19", x.flow(1, 19, 0), -1);
        for (int bad : new int[] {LOW, HIGH}) {
            say.due("far out", x.flow(bad, 0, 0) + x.flow(0, bad, 0) + x.flow(0, 0, bad), -3);
        }
    }

    private void needsNearDig() {
        say.says(8, "Of this season, what 0: mills that are DRY as bits of RIVERS, 1: towns FLOODED; NONE: others.");
        RiverVows x = say.told(Texts.river("a", "brook", 20, 10, 0, "7 6 5 4", "mill 6 at 10 town 9 at 10")
                + Texts.river("b", "brook", 20, 10, 0, "5 5 5 5", "mill 5 at 10 town 4 at 10")
                + Texts.river("c", "brook", 20, 10, 0, "1 2 3 4", "mill 4 at 10 town 3 at 10"));
        int[][] due = {{4, 2}, {4, 2}, {5, 2}, {1, 6}};
        for (int[] one : due) {
            say.due("dry", x.needs(0), one[0]);
            say.due("flooded", x.needs(1), one[1]);
            x.seasons(1);
        }
        for (int bad : new int[] {-1, 2, LOW, HIGH}) {
            say.due("needs(" + bad + ")", x.needs(bad), -1);
        }
        say.says(9, "NEAR (0: the same); NONE: others.");
        RiverVows six = say.told(line(6));
        for (int r = 0; r < 6; r++) {
            say.due("the same", six.near(r, r), 0);
        }
        for (int bad : new int[] {-1, 6, LOW, HIGH}) {
            say.due("near of none", six.near(bad, 0), -1);
            say.due("near to none", six.near(5, bad), -1);
            say.due("near of the same that is none", six.near(bad, bad), -1);
        }
        say.says(10, "DIGGING; NONE: others, the same.");
        say.due("dig", six.dig(0, 5), 0);
        for (int r = 0; r < 6; r++) {
            say.due("the same", six.dig(r, r), -1);
        }
        for (int bad : new int[] {-1, 6, LOW, HIGH}) {
            say.due("dig of none", six.dig(bad, 0), -1);
            say.due("dig to none", six.dig(5, bad), -1);
        }
    }

    private void mayAndEnds() {
        say.says(0, "MAY: the RIVERS a RIVER may WED now.");
        RiverVows x = say.told(line(6));
        say.due("all but itself", x.may(2), 59);
        x.wed(1, 2);
        say.due("not who flows into it", x.may(2), 57);
        say.due("none, for it is wed", x.may(1), 0);
        say.says(11, "MAY, as bits; NONE: others.");
        say.due("the first", x.may(0), 62);
        say.due("the last", x.may(5), 31);
        for (int bad : new int[] {-1, 6, LOW, HIGH}) {
            say.due("may(" + bad + ")", x.may(bad), -1);
        }
        say.says(0, "ENDS: RIVERS that may wed none and be wed by none if nobody were wed.");
        String high = Texts.even("a", 99, 90, 1, "");
        String low = Texts.even("b", 80, 10, 1, "");
        say.due("one alone", say.told(high).ends(), 1);
        say.due("his spring is lower", say.told(high + low).ends(), 3);
        say.due("one may wed, one be wed", say.told(high + low + Texts.even("c", 95, 80, 1, "")).ends(), 2);
        say.due("salt", say.told(line(2) + Texts.river("s", "salt", 50, 20, 0, "1 1 1 1", "")).ends(), 4);
        say.due("all too near", say.told(line(6) + "kin 5 ;").ends(), 63);
        say.due("the ends of a line are far enough", say.told(line(6) + "kin 4 ;").ends(), 30);
        say.says(12, "ENDS, as bits.");
        RiverVows y = say.told(line(6));
        say.due("none ends", y.ends(), 0);
        for (int r = 0; r < 5; r++) {
            y.wed(r, r + 1);
        }
        say.due("none ends, though all are wed", y.ends(), 0);
        say.due("no river", new RiverVows().ends(), 0);
    }

    // ---- promises 13 to 17

    private void wedAndPart() {
        String before = Snapshot.of(Snapshot.busy());
        say.says(13, "WED: the DOWRY; NONE: others, it may not.");
        RiverVows x = Snapshot.busy();
        int[][] refused = {{-1, 0}, {3, 0}, {0, -1}, {0, 3}, {0, 0}, {2, 2}, {0, 2}, {1, 2}, {2, 0}, {2, 1}, {LOW, HIGH},
            {HIGH, LOW}};
        for (int[] two : refused) {
            say.due("wed(" + two[0] + ", " + two[1] + ")", x.wed(two[0], two[1]), -1);
        }
        say.due("nothing is done", Snapshot.of(x), before);
        say.due("a dowry of 0 is no refusal", say.told(TWO + "dowry 0 ;").wed(0, 1), 0);
        say.says(14, "PART: true; false: others, it is not wed.");
        RiverVows y = Snapshot.busy();
        for (int bad : new int[] {-1, 3, 6, 2, LOW, HIGH}) {
            say.due("part(" + bad + ")", y.part(bad), false);
        }
        say.due("nothing is done", Snapshot.of(y), before);
        say.due("part(0)", y.part(0), true);
        say.due("part(0) again", y.part(0), false);
        say.due("part(1)", y.part(1), true);
    }

    private void seasonsAndUndo() {
        String before = Snapshot.of(Snapshot.busy());
        say.says(15, "So many SEASONS (1 to 100): how many passed in all; NONE: others.");
        RiverVows x = Snapshot.busy();
        for (int bad : new int[] {0, -1, 101, LOW, HIGH}) {
            say.due("seasons(" + bad + ")", x.seasons(bad), -1);
        }
        say.due("nothing is done", Snapshot.of(x), before);
        say.due("seasons(1)", x.seasons(1), 6);
        say.due("seasons(100)", x.seasons(100), 106);
        say.due("seasons(99)", x.seasons(99), 205);
        RiverVows y = say.told(TWO + "silt flow ;");
        say.due("a hundred at once", y.seasons(100), 100);
        say.due("silt of 25 years", y.river(0, 7), 25 * 22);
        say.due("silt of 25 years", y.river(1, 7), 300);
        say.says(16, "UNDO: true; false: nothing can be.");
        RiverVows z = say.told(TWO);
        say.due("nothing", z.undo(), false);
        z.wed(0, 1);
        say.due("a wedding", z.undo(), true);
        say.due("nothing", z.undo(), false);
        Saying.vows(z, "season ;");
        Saying.will(z, "heir 1 ;");
        z.tell(0, 0, 0);
        z.mark(0, false);
        z.centuries(1, 100, 0);
        z.wed(1, 0);
        z.part(0);
        z.seasons(101);
        say.due("nothing of these", z.undo(), false);
    }

    private void judged() {
        say.says(17, "JUDGED, what 0: the first line that can't be, 1: the first one behind which a mill is DRY, a town "
                + "FLOODED (NONE: none), 2: weddings; -2: others.");
        RiverVows x = say.told(NEEDY);
        int[] none = {-1, -1, 0};
        for (int what = 0; what < 3; what++) {
            say.due("judged(" + what + ") of no VOWS", x.judged(what), none[what]);
        }
        Saying.vows(x, "wed a b ; part b ; season ;");
        int[] due = {1, 0, 1};
        for (int what = 0; what < 3; what++) {
            say.due("judged(" + what + ")", x.judged(what), due[what]);
        }
        for (int bad : new int[] {-1, 3, LOW, HIGH}) {
            say.due("judged(" + bad + ")", x.judged(bad), -2);
        }
        say.due("nothing is done", x.count(2) + x.count(3) + x.count(8), 0);
    }
}
