import java.util.NoSuchElementException;

/** Edges of shares, storms, walls, what is told and found, bids, dams, centuries, marks, counts; promises 26 to 36. */
final class ChanceEdges {
    private static final int LOW = Integer.MIN_VALUE;
    private static final int HIGH = Integer.MAX_VALUE;
    private static final String TWO = Texts.brook("a", 20, 10, 0, "7 6 5 4") + Texts.brook("b", 30, 0, 15, "3 3 3 3");

    private final Saying say;

    ChanceEdges(Saying say) {
        this.say = say;
    }

    void all() {
        sharesByWants();
        share();
        stormsByChances();
        stormsWhereTheyCome();
        storms();
        walls();
        worstSeason();
        worst();
        told();
        foundWays();
        foundBore();
        found();
        bids();
        rests();
        damsByTurns();
        dams();
        draws();
        fates();
        centuries();
        marksHold();
        mark();
        count();
    }

    /** So many brooks with water 1 that each may wed each; the first one has a town. */
    private static String alike(int many, int holds) {
        StringBuilder text = new StringBuilder(Texts.even("ra", 50, 20, 1, "town " + holds + " at 20"));
        for (int i = 1; i < many; i++) {
            text.append(Texts.even("r" + (char) ('a' + i), 50, 20, 1, ""));
        }
        return text.toString();
    }

    // ---- shares

    /** What one river of so much water leaves to each heir. */
    private void shares(int flow, String wants, int... due) {
        RiverVows x = say.told(Texts.even("a", 50, 20, flow, ""));
        say.due("will of " + wants, Saying.will(x, "heir " + wants.replace(" ", " ; heir ") + " ;"), 0);
        for (int i = 0; i < due.length; i++) {
            say.due(flow + " by " + wants + ": heir " + i, x.share(0, 0, i), due[i]);
        }
        say.due("no more heirs", x.share(0, 0, due.length), -1);
    }

    private void sharesByWants() {
        say.says(0, "SHARES of the WILL: the FLOW of a RIVER at its mouth in a season, shared by wants: each heir's is FLOW * "
                + "want by all wants, cut");
        shares(12, "1 2 3", 2, 4, 6);
        shares(99, "5", 99);
        shares(0, "1 2", 0, 0);
        shares(99, "99 99 99", 33, 33, 33);
        RiverVows six = say.told(alike(6, 0));
        for (int r = 1; r < 6; r++) {
            six.wed(r, 0);
        }
        Saying.will(six, "heir 1 ; heir 2 ;");
        say.due("all that flows at the mouth", six.share(0, 0, 0) + 10 * six.share(0, 0, 1), 42);
        RiverVows season = say.told(Texts.brook("a", 50, 20, 0, "4 8 12 16"));
        Saying.will(season, "heir 1 ; heir 3 ;");
        for (int s = 0; s < 4; s++) {
            say.due("in season " + s, season.share(0, s, 1), 3 + 3 * s);
        }
        RiverVows most = say.told(Texts.even("ra", 50, 20, 99, "") + Texts.even("rb", 50, 20, 99, "")
                + Texts.even("rc", 50, 20, 99, "") + Texts.even("rd", 50, 20, 99, "") + Texts.even("re", 50, 20, 99, "")
                + Texts.even("rf", 50, 20, 99, ""));
        for (int r = 1; r < 6; r++) {
            most.wed(r, 0);
        }
        Saying.will(most, "heir 99 ; ".repeat(6));
        for (int i = 0; i < 6; i++) {
            say.due("594 by six of 99", most.share(0, 0, i), 99);
        }
        say.says(0, "what is left goes by ones to those with the greatest rest of that, the first of equal ones (no wants: nobody "
                + "has any).");
        shares(8, "1 2", 3, 5);
        shares(7, "1 2", 2, 5);
        shares(10, "1 1 1", 4, 3, 3);
        shares(11, "1 1 1", 4, 4, 3);
        shares(5, "1 1 1 1 1 1", 1, 1, 1, 1, 1, 0);
        shares(11, "1 1 1 1 1 1", 2, 2, 2, 2, 2, 1);
        // 10 * 4, 3, 0, 4 by 11: 3 and 7, 2 and 8, 0, 3 and 7: two are left
        shares(10, "4 3 0 4", 4, 3, 0, 3);
        shares(1, "1 99", 0, 1);
        shares(1, "50 50", 1, 0);
        shares(9, "0 5", 0, 9);
        shares(9, "0 0", 0, 0);
        shares(0, "0", 0);
    }

    private void share() {
        say.says(27, "SHARES of the i-th heir; NONE: others, no WILL.");
        RiverVows x = say.told(TWO);
        say.due("no WILL", x.share(0, 0, 0), -1);
        Saying.will(x, "");
        say.due("a WILL of no heirs", x.share(0, 0, 0), -1);
        Saying.will(x, "heir 1 ; ".repeat(6));
        say.due("the first", x.share(0, 0, 0), 2);
        say.due("the second", x.share(0, 0, 1), 1);
        say.due("the sixth", x.share(0, 0, 5), 1);
        for (int bad : new int[] {-1, 6, LOW, HIGH}) {
            say.due("heir " + bad, x.share(0, 0, bad), -1);
        }
        for (int bad : new int[] {-1, 2, 6, LOW, HIGH}) {
            say.due("river " + bad, x.share(bad, 0, 0), -1);
        }
        for (int bad : new int[] {-1, 4, LOW, HIGH}) {
            say.due("season " + bad, x.share(0, bad, 0), -1);
        }
        say.due("season 3", x.share(0, 3, 3), 1);
        say.due("season 3", x.share(0, 3, 4), 0);
        Saying.will(x, "heir 0 ; heir 0 ;");
        say.due("no wants, an heir", x.share(0, 0, 1), 0);
        say.due("no wants, no heir", x.share(0, 0, 2), -1);
        Saying.land(x, TWO);
        say.due("no WILL in a new LAND", x.share(0, 0, 0), -1);
    }

    // ---- storms and walls

    private void stormsByChances() {
        say.says(0, "STORMS: each RIVER's own water is so much more by its chance, each for itself: the chance, in millionths, cut, "
                + "that a town is FLOODED in a season as all are wed now");
        // Two by 3 of ten: none 490000, one 420000, both 90000.
        int[][] two = {{1, 1000000}, {2, 510000}, {11, 510000}, {12, 90000}, {21, 90000}, {22, 0}};
        for (int[] one : two) {
            RiverVows x = say.told(alike(2, one[0]) + "storm 3 by 10 ;");
            x.wed(1, 0);
            say.due("two, walls of " + one[0], x.storms(0, 0), one[1]);
        }
        // Six by 1 of ten: all six once in a million.
        int[][] six = {{6, 468559}, {7, 114265}, {8, 15850}, {9, 1270}, {10, 55}, {11, 1}, {12, 0}};
        for (int[] one : six) {
            RiverVows x = say.told(alike(6, one[0]) + "storm 1 by 1 ;");
            for (int r = 1; r < 6; r++) {
                x.wed(r, r - 1);
            }
            say.due("six, walls of " + one[0], x.storms(0, 0), one[1]);
        }
        for (int chance = 0; chance <= 10; chance++) {
            RiverVows x = say.told(alike(1, 1) + "storm " + chance + " by 1 ;");
            say.due("chance " + chance, x.storms(0, 0), 100000 * chance);
        }
        RiverVows now = say.told(alike(2, 1));
        say.due("without a storm, alone", now.storms(0, 0), 0);
        now.wed(1, 0);
        say.due("without a storm, as wed now", now.storms(0, 0), 1000000);
        RiverVows season = say.told(Texts.river("a", "brook", 50, 20, 0, "4 5 6 7", "town 6 at 30") + "storm 4 by 1 ;");
        int[] due = {0, 0, 400000, 1000000};
        for (int s = 0; s < 4; s++) {
            say.due("in season " + s, season.storms(0, s), due[s]);
        }
    }

    private void stormsWhereTheyCome() {
        say.says(0, "(by all whose water is in the FLOW there: a clear one's above its mouth is its own alone).");
        for (int at = 29; at <= 31; at++) {
            RiverVows x = say.told(Texts.even("a", 50, 30, 1, "") + Texts.even("b", 60, 0, 1, "town 11 at " + at)
                    + "storm 5 by 10 ;");
            x.wed(0, 1);
            say.due("a town at " + at, x.storms(1, 0), at > 30 ? 0 : 750000);
        }
        for (int at = 20; at <= 21; at++) {
            RiverVows x = say.told(Texts.even("a", 50, 30, 1, "")
                    + Texts.river("c", "clear", 60, 20, 0, "1 1 1 1", "town 11 at " + at) + "storm 5 by 10 ;");
            x.wed(0, 1);
            say.due("a clear one's town at " + at, x.storms(1, 0), at > 20 ? 0 : 750000);
        }
    }

    private void storms() {
        say.says(28, "STORMS over a RIVER's town in a season; NONE: others, no town.");
        RiverVows x = say.told(alike(2, 0));
        say.due("a town", x.storms(0, 0), 1000000);
        say.due("a town, season 3", x.storms(0, 3), 1000000);
        say.due("no town", x.storms(1, 0), -1);
        for (int bad : new int[] {-1, 2, 6, LOW, HIGH}) {
            say.due("river " + bad, x.storms(bad, 0), -1);
        }
        for (int bad : new int[] {-1, 4, LOW, HIGH}) {
            say.due("season " + bad, x.storms(0, bad), -1);
        }
    }

    private void walls() {
        say.says(0, "WALLS: the least that town must hold so that it is no more than so many millionths (0 to 9,999).");
        for (int holds : new int[] {0, 5, 999}) {
            RiverVows x = say.told(alike(6, holds) + "storm 1 by 1 ;");
            for (int r = 1; r < 6; r++) {
                x.wed(r, r - 1);
            }
            int[][] due = {{1000000, 0}, {999999, 6}, {468559, 6}, {468558, 7}, {114265, 7}, {114264, 8}, {55, 10}, {54, 11},
                {1, 11}, {0, 12}};
            for (int[] one : due) {
                say.due("walls for " + one[0], x.walls(0, 0, one[0]), one[1]);
            }
        }
        StringBuilder most = new StringBuilder(Texts.even("ra", 50, 20, 99, "town 0 at 20"));
        for (int i = 1; i < 6; i++) {
            most.append(Texts.even("r" + (char) ('a' + i), 50, 20, 99, ""));
        }
        RiverVows y = say.told(most + "storm 5 by 99 ;");
        for (int r = 1; r < 6; r++) {
            y.wed(r, 0);
        }
        say.due("the highest there are", y.walls(0, 0, 0), 1188);
        RiverVows sure = say.told(alike(1, 0) + "storm 10 by 7 ;");
        say.due("a storm that is sure", sure.walls(0, 0, 999999), 8);
        say.due("a storm that never comes", say.told(alike(1, 0) + "storm 0 by 7 ;").walls(0, 0, 0), 1);
        say.due("nothing flows", say.told(Texts.even("a", 50, 20, 0, "town 9 at 20")).walls(0, 0, 0), 0);
        say.says(29, "WALLS by so many millionths (0 to 1,000,000); NONE: likewise.");
        say.due("0", sure.walls(0, 0, 0), 8);
        say.due("1,000,000", sure.walls(0, 0, 1000000), 0);
        for (int bad : new int[] {-1, 1000001, LOW, HIGH}) {
            say.due("millionths " + bad, sure.walls(0, 0, bad), -1);
        }
        for (int bad : new int[] {-1, 1, 6, LOW, HIGH}) {
            say.due("river " + bad, sure.walls(bad, 0, 0), -1);
        }
        for (int bad : new int[] {-1, 4, LOW, HIGH}) {
            say.due("season " + bad, sure.walls(0, bad, 0), -1);
        }
        say.due("no town", say.told(TWO).walls(0, 0, 0), -1);
    }

    // ---- worst

    private void worstSeason() {
        say.says(0, "WORST of a town: the season in which most can flow there (with all storms there can be of those whose water is "
                + "there), of equal ones the first");
        String[] waters = {"9 8 8 8", "8 9 8 8", "8 8 9 8", "8 8 8 9", "9 9 9 9", "8 9 8 9", "0 0 0 0"};
        int[] due = {0, 1, 2, 3, 0, 1, 0};
        for (int i = 0; i < waters.length; i++) {
            RiverVows x = say.told(Texts.river("a", "brook", 50, 20, 0, waters[i], "town 5 at 20") + "storm 1 by 9 ;");
            say.due("worst of " + waters[i], x.worst(0, 0), due[i]);
        }
        RiverVows two = say.told(Texts.brook("a", 50, 30, 0, "0 0 0 9") + Texts.river("b", "brook", 60, 0, 0, "5 0 0 0",
                "town 5 at 30"));
        say.due("alone", two.worst(1, 0), 0);
        two.wed(0, 1);
        say.due("with what flows there", two.worst(1, 0), 3);
        say.says(0, "how much less the town holds (below 0: more).");
        for (int holds = 0; holds < 60; holds += 7) {
            RiverVows x = say.told(Texts.even("a", 50, 30, 4, "") + Texts.even("b", 60, 0, 3, "town " + holds + " at 30")
                    + "storm 1 by 10 ;");
            say.due("one storm, holds " + holds, x.worst(1, 1), 13 - holds);
            x.wed(0, 1);
            say.due("two storms, holds " + holds, x.worst(1, 1), 27 - holds);
        }
        String town = Texts.even("a", 50, 30, 4, "town 4 at 30");
        say.due("as much", say.told(town).worst(0, 1), 0);
        say.due("no storm can be", say.told(town + "storm 0 by 9 ;").worst(0, 1), 0);
        say.due("a storm can be", say.told(town + "storm 1 by 9 ;").worst(0, 1), 9);
        say.due("a storm must be", say.told(town + "storm 10 by 9 ;").worst(0, 1), 9);
    }

    private void throwsWorst(RiverVows x, int river, int what) {
        int thrown = 0;
        try {
            x.worst(river, what);
        } catch (NoSuchElementException e) {
            thrown = 1;
        }
        say.due("worst(" + river + ", " + what + ") throws", thrown, 1);
    }

    private void worst() {
        say.says(26, "WORST of a RIVER's town, what 0: the season, 1: how much less. NoSuchElementException: others, no town.");
        RiverVows x = say.told(alike(2, 5));
        say.due("what 0", x.worst(0, 0), 0);
        say.due("what 1", x.worst(0, 1), -4);
        for (int what = 0; what < 2; what++) {
            throwsWorst(x, 1, what);
            for (int bad : new int[] {-1, 2, 6, LOW, HIGH}) {
                throwsWorst(x, bad, what);
            }
        }
        for (int bad : new int[] {-1, 2, LOW, HIGH}) {
            throwsWorst(x, 0, bad);
        }
    }

    // ---- told and found

    private void told() {
        say.says(0, "TOLD: that so much (0 to 9999) flowed at the mouth of a RIVER in a season (10 at most).");
        RiverVows x = say.told(TWO);
        say.due("-1", x.tell(0, 0, -1), false);
        say.due("10000", x.tell(0, 0, 10000), false);
        say.due("0", x.tell(0, 0, 0), true);
        say.due("9999", x.tell(0, 0, 9999), true);
        for (int many = 2; many < 10; many++) {
            say.due("so many", x.count(6), many);
            say.due("another one", x.tell(many % 2, many % 4, 5), true);
        }
        say.due("ten", x.count(6), 10);
        say.due("no eleventh", x.tell(0, 0, 0), false);
        say.due("ten", x.count(6), 10);
        say.says(30, "TOLD: true; false: others, 10 are TOLD.");
        RiverVows y = say.told(TWO);
        for (int bad : new int[] {-1, 2, 6, LOW, HIGH}) {
            say.due("river " + bad, y.tell(bad, 0, 0), false);
        }
        for (int bad : new int[] {-1, 4, LOW, HIGH}) {
            say.due("season " + bad, y.tell(0, bad, 0), false);
        }
        for (int bad : new int[] {-1, 10000, LOW, HIGH}) {
            say.due("flow " + bad, y.tell(0, 0, bad), false);
        }
        say.due("none is TOLD", y.count(6), 0);
        say.due("river 1, season 3", y.tell(1, 3, 7), true);
        say.due("found by it", y.found(0), 1);
        Saying.land(y, TWO);
        say.due("nothing TOLD of a new LAND", y.count(6), 0);
        say.due("nothing TOLD of a new LAND", y.found(0), 2);
    }

    private void foundWays() {
        say.says(0, "FOUND: ways of MATCH (mills, towns aside) by which all TOLD is so: how many; husbands that are in all of them");
        RiverVows x = say.told(Texts.even("a", 50, 20, 1, "mill 999 at 20") + Texts.even("b", 50, 20, 2, "town 0 at 20")
                + Texts.even("c", 50, 20, 4, ""));
        say.due("mills, towns aside", x.match(2), -2);
        say.due("all ways", x.found(0), 16);
        say.due("no husband in all", x.found(2), -2);
        x.tell(2, 0, 7);
        // a and b both into c, a into b into c, b into a into c
        say.due("all flow at c's mouth", x.found(0), 3);
        say.due("a has not the same", x.found(2), -2);
        say.due("c has none in all", x.found(4), -1);
        x.tell(1, 1, 3);
        say.due("a flows into b", x.found(0), 1);
        say.due("a's husband", x.found(2), 1);
        say.due("b's husband", x.found(3), 2);
        x.tell(1, 2, 2);
        say.due("never so", x.found(0), 0);
        RiverVows season = say.told(Texts.brook("a", 50, 20, 0, "0 0 0 1") + Texts.brook("b", 60, 0, 0, "3 3 3 3"));
        season.tell(1, 0, 3);
        say.due("nothing told by a dry season", season.found(0), 2);
        season.tell(1, 3, 3);
        say.due("told by another season", season.found(0), 1);
        say.due("a has no husband", season.found(2), -1);
    }

    private void foundBore() {
        say.says(0, "the RIVER and season (RIVER * 4 + season) whose FLOW at the mouth tells most: the greatest number of those with "
                + "one and the same is the least, of equal ones the first.");
        RiverVows season = say.told(Texts.brook("a", 50, 20, 0, "0 0 1 1") + Texts.brook("b", 60, 0, 0, "3 3 3 3"));
        say.due("b, in the third season", season.found(1), 6);
        RiverVows none = say.told(Texts.brook("a", 50, 20, 0, "0 0 0 0") + Texts.brook("b", 60, 0, 0, "3 3 3 3"));
        say.due("two ways that no bore parts", none.found(1), -1);
        // At c: 4, 5, 6, 7; in the first season a's and b's are alike there, so 5 and 5 fall together.
        RiverVows most = say.told(Texts.brook("a", 50, 40, 0, "1 1 1 1") + Texts.brook("b", 39, 30, 0, "1 2 0 1")
                + Texts.brook("c", 60, 0, 0, "4 4 4 4"));
        say.due("four ways", most.found(0), 4);
        say.due("c, in the second season", most.found(1), 9);
        RiverVows first = say.told(Texts.even("a", 50, 20, 1, "") + Texts.even("b", 50, 20, 1, ""));
        // Three ways: at a's mouth 1, 1, 2, at b's 1, 2, 1
        say.due("of equal ones the first", first.found(1), 0);
        RiverVows last = say.told(TWO);
        last.tell(1, 0, 10);
        say.due("one way is left", last.found(0), 1);
        say.due("none parts one", last.found(1), -1);
    }

    private void found() {
        say.says(31, "FOUND, what 0: how many, 1: the bore that tells most (NONE: none parts them); 2 + r: the husband a RIVER has in "
                + "all (NONE: none in all; -2: not the same in all); -3: others, none (but 0).");
        RiverVows x = say.told(TWO);
        int[] due = {2, 4, -2, -1, -3};
        for (int what = 0; what < due.length; what++) {
            say.due("found(" + what + ")", x.found(what), due[what]);
        }
        for (int bad : new int[] {-1, -2, -3, 4, 8, LOW, HIGH}) {
            say.due("found(" + bad + ")", x.found(bad), -3);
        }
        x.tell(0, 0, 0);
        int[] none = {0, -3, -3, -3, -3};
        for (int what = 0; what < none.length; what++) {
            say.due("found(" + what + ") of none", x.found(what), none[what]);
        }
        RiverVows six = say.told(alike(6, 0));
        say.due("all of six", six.found(0), 16807);
        say.due("the last river", six.found(7), -2);
        say.due("no seventh", six.found(8), -3);
    }

    // ---- bids

    /** Bids at rest for a wife whose flow at the mouth is so much. */
    private void atRest(int flow, int... due) {
        RiverVows x = say.told(Texts.even("w", 50, 20, flow, "") + Texts.even("a", 60, 0, 1, "") + Texts.even("b", 60, 0, 1, ""));
        say.due("how many for " + flow, x.rests(0, 1, 2, -1), due.length);
        for (int i = 0; i < due.length; i++) {
            say.due("rest " + i + " for " + flow, x.rests(0, 1, 2, i), due[i]);
            say.due("rest " + i + " for " + flow + ", the other one told first", x.rests(0, 2, 1, i), due[i]);
        }
        say.due("no more for " + flow, x.rests(0, 1, 2, due.length), -1);
    }

    private void bids() {
        say.says(0, "BIDS: two RIVERS that another one may WED now bid for it, 0 to 9 each: it weds who bids more (the first told one "
                + "if alike), who then has its FLOW at the mouth now by 5, cut, less the bid; the other one 0.");
        atRest(4, 0);
        atRest(5, 0, 1, 11);
        atRest(9, 0, 1, 11);
        atRest(10, 11, 12, 22);
        atRest(14, 11, 12, 22);
        atRest(44, 77, 78, 88);
        atRest(45, 88, 89, 99);
        atRest(49, 88, 89, 99);
        RiverVows now = say.told(Texts.brook("w", 50, 20, 0, "5 0 10 0") + Texts.even("a", 60, 0, 1, "")
                + Texts.even("b", 60, 0, 1, "") + Texts.even("c", 50, 20, 5, ""));
        say.due("flow in this season", now.rests(0, 1, 2, 2), 11);
        now.seasons(1);
        say.due("flow in this season", now.rests(0, 1, 2, -1), 1);
        now.wed(3, 0);
        say.due("all her flow at the mouth", now.rests(0, 1, 2, -1), 3);
        say.says(0, "RESTS: bids of which neither would have more by another one of its own.");
        atRest(0, 0);
        atRest(50, 99);
        atRest(99, 99);
    }

    private void rests() {
        say.says(32, "RESTS of BIDS for a wife, what NONE: how many; i: the i-th as 10 * the first one's bid + the second one's (the "
                + "least first); NONE: others, it may not WED both, the same.");
        RiverVows x = say.told(Texts.even("w", 50, 20, 25, "") + Texts.even("a", 60, 0, 1, "") + Texts.even("b", 60, 0, 1, "")
                + Texts.even("low", 20, 0, 1, "") + Texts.river("s", "salt", 60, 0, 0, "1 1 1 1", ""));
        int[] due = {3, 44, 45, 55, -1, -1};
        for (int what = -1; what < 5; what++) {
            say.due("what " + what, x.rests(0, 1, 2, what), due[what + 1]);
        }
        for (int bad : new int[] {-2, LOW, HIGH}) {
            say.due("what " + bad, x.rests(0, 1, 2, bad), -1);
        }
        for (int bad : new int[] {-1, 5, 6, LOW, HIGH}) {
            say.due("wife " + bad, x.rests(bad, 1, 2, -1), -1);
            say.due("one " + bad, x.rests(0, bad, 2, -1), -1);
            say.due("other " + bad, x.rests(0, 1, bad, -1), -1);
        }
        say.due("the same", x.rests(0, 1, 1, -1), -1);
        say.due("the wife herself", x.rests(0, 0, 1, -1), -1);
        say.due("the wife herself", x.rests(0, 1, 0, -1), -1);
        say.due("not the first", x.rests(0, 3, 1, -1), -1);
        say.due("not the second", x.rests(0, 1, 3, -1), -1);
        say.due("not the salt one", x.rests(0, 1, 4, -1), -1);
        say.due("neither", x.rests(1, 0, 3, -1), -1);
        x.wed(0, 2);
        say.due("she is wed", x.rests(0, 1, 2, -1), -1);
        x.part(0);
        say.due("she is free", x.rests(0, 1, 2, -1), 3);
        say.due("nothing is done", x.count(3), 0);
    }

    // ---- dams

    /** Whether who is to take wins with so many parts, by looking at every take. */
    private static boolean wins(boolean[][] known, int mine, int theirs) {
        for (int take = 1; take <= 3; take++) {
            if (take <= mine && !known[mine - take][theirs] || take <= theirs && !known[mine][theirs - take]) {
                return true;
            }
        }
        return false;
    }

    private void damsByTurns() {
        say.says(0, "DAMS: two RIVERS by turns each hold back parts of the water that they have (own water in this season, 20 at "
                + "most): each in turn takes 1 to 3 parts away from those of either one; who cannot take any loses (nothing is left "
                + "at both): whether the first one wins");
        boolean[][] known = new boolean[21][21];
        for (int mine = 0; mine <= 20; mine++) {
            for (int theirs = 0; theirs <= 20; theirs++) {
                known[mine][theirs] = wins(known, mine, theirs);
            }
        }
        for (int mine = 0; mine <= 20; mine++) {
            for (int theirs = 0; theirs <= 20; theirs += 4) {
                RiverVows x = say.told(Texts.even("a", 50, 20, mine, "") + Texts.brook("b", 50, 20, 0, theirs + " "
                        + (theirs + 1) + " " + (theirs + 2) + " " + (theirs + 3)));
                for (int season = 0; season < 4; season++) {
                    int capped = Math.min(20, theirs + season);
                    say.due(mine + " and " + (theirs + season), x.dams(0, 1, 0), known[mine][capped] ? 1 : 0);
                    say.due((theirs + season) + " and " + mine, x.dams(1, 0, 0), known[capped][mine] ? 1 : 0);
                    x.seasons(1);
                }
            }
        }
        say.due("99 is 20", say.told(Texts.even("a", 50, 20, 99, "") + Texts.even("b", 50, 20, 20, "")).dams(0, 1, 0), 0);
        say.due("21 is 20", say.told(Texts.even("a", 50, 20, 21, "") + Texts.even("b", 50, 20, 20, "")).dams(0, 1, 0), 0);
        say.due("19 is less", say.told(Texts.even("a", 50, 20, 19, "") + Texts.even("b", 50, 20, 20, "")).dams(0, 1, 0), 1);
        RiverVows wed = say.told(Texts.even("a", 50, 20, 4, "") + Texts.even("b", 50, 20, 4, "") + Texts.even("c", 50, 20, 1, ""));
        wed.wed(2, 0);
        say.due("own water", wed.dams(0, 1, 0), 0);
    }

    /** The take with so many parts in this season. */
    private void takes(int mine, int theirs, int due) {
        RiverVows x = say.told(Texts.even("a", 50, 20, mine, "") + Texts.even("b", 50, 20, theirs, ""));
        say.due("take of " + mine + " and " + theirs, x.dams(0, 1, 1), due);
    }

    private void dams() {
        say.says(0, "the first take that wins (from the first one's: 1 to 3; from the second one's by 3 more: 4 to 6).");
        takes(1, 0, 1);
        takes(2, 0, 2);
        takes(3, 0, 3);
        takes(4, 0, -1);
        takes(0, 1, 4);
        takes(0, 2, 5);
        takes(0, 3, 6);
        takes(0, 4, -1);
        takes(0, 0, -1);
        takes(5, 6, 3);
        takes(1, 2, 4);
        takes(6, 5, 1);
        takes(20, 17, 3);
        takes(17, 20, 1);
        takes(99, 19, 1);
        takes(0, 99, -1);
        takes(1, 99, 1);
        say.says(33, "DAMS, what 0: 1 the first one wins, 0 not; 1: the take; NONE: others, the same, none wins.");
        RiverVows x = say.told(TWO);
        say.due("7 and 3: loses", x.dams(0, 1, 0), 0);
        say.due("7 and 3: none wins", x.dams(0, 1, 1), -1);
        x.seasons(1);
        say.due("6 and 3: wins", x.dams(0, 1, 0), 1);
        say.due("6 and 3: 3 of the first", x.dams(0, 1, 1), 3);
        say.due("3 and 6: 1 of the first", x.dams(1, 0, 1), 1);
        for (int bad : new int[] {-1, 2, LOW, HIGH}) {
            say.due("what " + bad, x.dams(0, 1, bad), -1);
        }
        for (int bad : new int[] {-1, 2, 6, LOW, HIGH}) {
            say.due("first " + bad, x.dams(bad, 1, 0), -1);
            say.due("second " + bad, x.dams(0, bad, 0), -1);
        }
        say.due("the same, what 0", x.dams(1, 1, 0), -1);
        say.due("the same, what 1", x.dams(0, 0, 1), -1);
    }

    // ---- centuries

    private static int stirred(int g) {
        return (int) ((g * 1103515245L + 12345L) & 0x7fffffffL);
    }

    private void draws() {
        say.says(0, "A DRAW below m: g becomes (g * 1103515245 + 12345) modulo 2147483648 (g is the SEED at first); it is g / 65536, "
                + "cut, modulo m.");
        // One river whose mill is dry in each drought: what is counted are the draws of 0.
        RiverVows x = say.told(Texts.even("a", 50, 20, 1, "mill 1 at 20"));
        for (int seed : new int[] {0, 1, 2, 3, 40, 70, 77, 500, 999, 1000, 4711, 5000, 8191, 8192, 9998, 9999}) {
            int g = seed;
            int droughts = 0;
            for (int season = 1; season <= 100; season++) {
                g = stirred(g);
                int fate = (g >> 16) % 10;
                droughts += fate == 0 ? 1 : 0;
                // One that elopes is drawn, and with whom; one that parts is drawn.
                for (int more = 0; more < (fate == 1 ? 2 : fate == 2 ? 1 : 0); more++) {
                    g = stirred(g);
                }
                if (season <= 5 || season % 19 == 0 || season == 100) {
                    say.due("droughts of seed " + seed + ", " + season + " seasons", x.centuries(seed, season, 0), droughts);
                }
            }
        }
    }

    private void fates() {
        say.says(0, "CENTURIES by a SEED of so many seasons (1 to 100), from now on (all is as ahead then): each a DRAW below 10: 0 a "
                + "drought (all water is half, cut, this season)");
        // The first draws: seed 0: 0; seed 70: 1, then 0 and 1; seed 40: 2, then 0; seed 9: 2, then 1.
        for (int water = 1; water < 6; water++) {
            RiverVows x = say.told(Texts.even("a", 50, 20, water, "mill " + (water / 2 + 1) + " at 20 town " + (water / 2)
                    + " at 20"));
            say.due("dry by half of " + water, x.centuries(0, 1, 0), 1);
            say.due("not flooded by half of " + water, x.centuries(0, 1, 1), 0);
            RiverVows y = say.told(Texts.even("a", 50, 20, water + 1, "mill " + (water + 1) / 2 + " at 20"));
            say.due("not dry by half of " + (water + 1), y.centuries(0, 1, 0), 0);
        }
        RiverVows halves = say.told(Texts.even("a", 50, 20, 1, "") + Texts.even("b", 50, 20, 3, "mill 2 at 20"));
        halves.wed(0, 1);
        say.due("each one's water is half: 0 and 1", halves.centuries(0, 1, 0), 1);
        // 8, 6 and 5: 4, 3 and 2 in a drought
        for (int edge = 8; edge <= 10; edge++) {
            RiverVows three = say.told(Texts.even("a", 50, 20, 8, "") + Texts.even("b", 50, 20, 6, "")
                    + Texts.even("c", 50, 20, 5, "mill " + edge + " at 20 town " + edge + " at 20"));
            three.wed(0, 1);
            three.wed(1, 2);
            say.due("9 where " + edge + " are wanted", three.centuries(0, 1, 0), edge > 9 ? 1 : 0);
            say.due("9 where " + edge + " are held", three.centuries(0, 1, 1), edge < 9 ? 1 : 0);
            three.seasons(1);
            say.due("in the second season, too", three.centuries(0, 1, 0), edge > 9 ? 1 : 0);
        }
        say.says(0, "1 an elopement: two DRAWS below the RIVERS: the first WEDS the second if it may");
        RiverVows two = say.told(TWO);
        say.due("a weds b", two.centuries(70, 1, 2), 1);
        RiverVows not = say.told(Texts.brook("a", 20, 10, 0, "7 6 5 4") + Texts.river("b", "salt", 30, 0, 15, "3 3 3 3", ""));
        say.due("a may not", not.centuries(70, 1, 2), 0);
        two.wed(0, 1);
        say.due("a is wed", two.centuries(70, 1, 2), 1);
        say.says(0, "2 a divorce: a DRAW below the RIVERS: it PARTS if it is wed");
        say.due("a parts", two.centuries(40, 1, 2), 0);
        say.due("b is not wed", two.centuries(9, 1, 2), 1);
        two.part(0);
        say.due("a is not wed", two.centuries(40, 1, 2), 0);
        say.says(0, "then mills DRY and towns FLOODED are counted, and the season comes to an end: DRY ones, FLOODED ones in all, "
                + "weddings at last.");
        RiverVows x = say.told(Texts.river("a", "brook", 20, 10, 0, "7 6 5 4", "mill 7 at 10 town 6 at 10")
                + Texts.river("b", "brook", 30, 0, 15, "3 3 3 3", "mill 4 at 0 town 9 at 0"));
        // Seed 5: no drought, elopement nor divorce in four seasons.
        int[] fates = new int[4];
        int g = 5;
        for (int i = 0; i < 4; i++) {
            g = stirred(g);
            fates[i] = (g >> 16) % 10;
        }
        say.due("nothing befalls", fates[0] > 2 && fates[1] > 2 && fates[2] > 2 && fates[3] > 2, true);
        int[] dry = {1, 3, 5, 7};
        int[] flooded = {1, 1, 1, 1};
        for (int many = 1; many <= 4; many++) {
            say.due("dry in " + many, x.centuries(5, many, 0), dry[many - 1]);
            say.due("flooded in " + many, x.centuries(5, many, 1), flooded[many - 1]);
        }
        x.seasons(1);
        say.due("from the second season on", x.centuries(5, 1, 0), 2);
        say.due("from the second season on", x.centuries(5, 3, 1), 0);
        say.due("and the first again", x.centuries(5, 4, 1), 1);
        x.wed(0, 1);
        say.due("as wed now", x.centuries(5, 1, 0), 1);
        say.due("as wed now", x.centuries(5, 1, 2), 1);
    }

    private void centuries() {
        say.says(34, "CENTURIES by a SEED (0 to 9999), what 0: DRY, 1: FLOODED, 2: weddings; NONE: others, no RIVER.");
        String before = Snapshot.of(Snapshot.busy());
        RiverVows x = Snapshot.busy();
        for (int what = 0; what < 3; what++) {
            say.due("seed 0, 1 season", x.centuries(0, 1, what) >= 0, true);
            say.due("seed 9999, 100 seasons", x.centuries(9999, 100, what) >= 0, true);
            for (int bad : new int[] {-1, 10000, LOW, HIGH}) {
                say.due("seed " + bad, x.centuries(bad, 1, what), -1);
            }
            for (int bad : new int[] {-1, 0, 101, LOW, HIGH}) {
                say.due("seasons " + bad, x.centuries(1, bad, what), -1);
            }
            say.due("no RIVER", new RiverVows().centuries(1, 1, what), -1);
        }
        for (int bad : new int[] {-1, 3, LOW, HIGH}) {
            say.due("what " + bad, x.centuries(1, 1, bad), -1);
        }
        say.due("all is as ahead", Snapshot.of(x), before);
        say.due("an empty LAND", Saying.land(x, ""), 0);
        say.due("no RIVER", x.centuries(1, 1, 0), -1);
    }

    // ---- marks and counts

    private void marksHold() {
        say.says(0, "MARKS 0 to 3 hold who is wed, the season, what is owed, silt, the WILL, what is TOLD (nothing can be undone when one "
                + "is gone back to).");
        RiverVows x = Snapshot.busy();
        say.due("lay 1", x.mark(1, false), true);
        say.due("laying leaves what can be undone", x.count(8), 7);
        String at = Snapshot.of(x);
        x.part(0);
        x.part(1);
        x.seasons(2);
        x.wed(0, 2);
        Saying.will(x, "heir 9 ; heir 9 ; heir 9 ;");
        x.tell(0, 3, 6);
        say.due("all is other", Snapshot.of(x).equals(at), false);
        say.due("back to 1", x.mark(1, true), true);
        say.due("nothing can be undone", x.count(8), 0);
        say.due("nothing can be undone", x.undo(), false);
        RiverVows y = Snapshot.busy();
        y.mark(1, false);
        y.mark(1, true);
        say.due("all is as it was laid", Snapshot.of(x), Snapshot.of(y));
        say.due("but for what can be undone", Snapshot.of(x).equals(at), false);
        say.due("a deed behind it can be undone", x.part(0), true);
        say.due("a deed behind it can be undone", x.count(8), 1);
        marksAgain();
        marksOfTold();
    }

    private void marksOfTold() {
        RiverVows x = say.told(TWO);
        x.mark(0, false);
        x.tell(1, 0, 10);
        say.due("a flows into b", x.found(2), 1);
        x.mark(1, false);
        x.mark(0, true);
        say.due("nothing is TOLD", x.count(6), 0);
        say.due("nothing is TOLD", x.found(0), 2);
        x.tell(1, 3, 3);
        say.due("a flows alone", x.found(2), -1);
        x.mark(2, false);
        x.mark(0, true);
        x.tell(0, 3, 0);
        say.due("never so", x.found(0), 0);
        say.due("back to the first", x.mark(1, true), true);
        say.due("a flows into b", x.found(2), 1);
        say.due("back to the second", x.mark(2, true), true);
        say.due("a flows alone", x.found(2), -1);
    }

    private void marksAgain() {
        RiverVows x = say.told(TWO);
        for (int mark = 0; mark < 4; mark++) {
            x.seasons(1);
            say.due("lay " + mark, x.mark(mark, false), true);
        }
        for (int mark = 3; mark >= 0; mark--) {
            say.due("back to " + mark, x.mark(mark, true), true);
            say.due("passed at " + mark, x.count(2), mark + 1);
        }
        x.seasons(50);
        x.mark(0, false);
        x.mark(3, true);
        x.mark(0, true);
        say.due("laid anew", x.count(2), 51);
        x.mark(0, true);
        say.due("gone back to twice", x.count(2), 51);
        Saying.vows(x, "season ; season ;");
        x.mark(2, true);
        say.due("VOWS are not held", x.count(4), 2);
        say.due("the season", x.needs(0), 0);
    }

    private void mark() {
        say.says(35, "A MARK is laid (back: gone back to): true; false: none such, nothing is on it (back).");
        RiverVows x = say.told(TWO);
        for (int mark = 0; mark < 4; mark++) {
            say.due("nothing is on " + mark, x.mark(mark, true), false);
        }
        say.due("lay 0", x.mark(0, false), true);
        say.due("lay 3", x.mark(3, false), true);
        say.due("back to 0", x.mark(0, true), true);
        say.due("nothing is on 1", x.mark(1, true), false);
        say.due("nothing is on 2", x.mark(2, true), false);
        say.due("back to 3", x.mark(3, true), true);
        x.wed(0, 1);
        for (int bad : new int[] {-1, 4, LOW, HIGH}) {
            say.due("lay " + bad, x.mark(bad, false), false);
            say.due("back to " + bad, x.mark(bad, true), false);
        }
        x.mark(1, true);
        say.due("a refused one leaves what can be undone", x.count(8), 1);
        say.due("a refused one leaves who is wed", x.count(3), 1);
        Saying.land(x, "!");
        say.due("there behind a fault", x.mark(3, true), true);
        Saying.land(x, TWO);
        say.due("gone with the LAND", x.mark(3, true), false);
    }

    private void count() {
        say.says(36, "What 0: RIVERS, 1: ranges, 2: seasons passed, 3: weddings, 4: lines of the VOWS, 5: heirs (NONE: no WILL), 6: TOLD, "
                + "7: kin, 8: what can be undone, 9: signs on the TAPE.");
        RiverVows x = Snapshot.busy();
        Saying.feed(x, " ".repeat(1001));
        int[] due = {3, 2, 5, 2, 4, 2, 1, 0, 7, 1000};
        for (int what = 0; what < 10; what++) {
            say.due("count(" + what + ")", x.count(what), due[what]);
        }
        RiverVows none = new RiverVows();
        say.due("no WILL", none.count(5), -1);
        Saying.will(none, "");
        say.due("a WILL of no heirs", none.count(5), 0);
        RiverVows many = say.told(TWO + "kin 9 ;");
        many.seasons(100);
        many.seasons(100);
        say.due("seasons passed in all", many.count(2), 200);
        many.undo();
        say.due("less what is undone", many.count(2), 199);
        say.due("kin", many.count(7), 9);
        say.says(36, "NONE for another what.");
        for (int bad : new int[] {-1, 10, LOW, HIGH}) {
            say.due("count(" + bad + ")", x.count(bad), -1);
        }
    }
}
