import java.util.NoSuchElementException;

/** Rivers that are given in marriage, by the numbered promises of the document. */
public final class RiverVows {
    public static final int NONE = -1;

    private static final int MOST_SIGNS = 1000;
    private static final int MOST_RIVERS = 6;
    private static final int MOST_RANGES = 4;
    private static final int MOST_LINES = 24;
    private static final int MOST_HEIRS = 6;
    private static final int MOST_TOLD = 10;
    private static final int MOST_UNDONE = 16;
    private static final int MARKS = 4;
    private static final int SEASONS = 4;
    /** How many sets of rivers there are, a set being bits. */
    private static final int SETS = 64;
    private static final int NOT_KIN = 99;
    private static final int MOST_WORN = 400;
    private static final int MOST_BID = 9;
    private static final int MOST_PARTS = 20;
    private static final int MILLION = 1000000;
    private static final int NOT_SAID = -2;
    private static final int NOT_FOUND = -3;

    private static final int PROUD = 1;
    private static final int CLEAR = 2;
    private static final int SALT = 3;

    private static final int WEDDING = 0;
    private static final int PARTING = 1;
    private static final int SEASON = 2;

    private final Scanner tape;
    private final Reader reader;
    private final Standing now;
    private final Standing[] undoable;
    private final Standing[] marks;
    private final int[] lines;
    private final Net net;
    private final Matches matches;
    private final Findings findings;
    /** Silt that a season brings each river: season by season, river by river. */
    private final int[] growth;
    /** The price of the best chain from each river to the last one. */
    private final int[] price;
    private Land country;
    private Land draft;
    private int lineCount;
    private int undoNext;
    private int undoCount;

    public RiverVows() {
        tape = new Scanner();
        country = new Land();
        draft = new Land();
        reader = new Reader(tape, draft);
        now = new Standing();
        undoable = new Standing[MOST_UNDONE];
        for (int i = 0; i < undoable.length; i++) {
            undoable[i] = new Standing();
        }
        marks = new Standing[MARKS];
        for (int i = 0; i < marks.length; i++) {
            marks[i] = new Standing();
        }
        lines = new int[MOST_LINES];
        net = new Net(country);
        matches = new Matches(net);
        findings = new Findings(net, now);
        growth = new int[SEASONS * MOST_RIVERS];
        price = new int[MOST_RIVERS];
        lineCount = 0;
        undoNext = 0;
        undoCount = 0;
    }

    // ---- the tape and what is read from it

    public int feed(long a, long b, long c) {
        feedBytes(a);
        feedBytes(b);
        feedBytes(c);
        return tape.length;
    }

    private void feedBytes(long bytes) {
        for (int shift = 56; shift >= 0; shift -= 8) {
            tape.put((int) (bytes >>> shift) & 255);
        }
    }

    public int land() {
        int fault = reader.readLand(draft);
        tape.empty();
        if (fault == 0) {
            Land told = draft;
            draft = country;
            country = told;
            beginAnew();
        }
        return fault;
    }

    private void beginAnew() {
        now.clear();
        for (int i = 0; i < marks.length; i++) {
            marks[i].laid = false;
        }
        lineCount = 0;
        undoCount = 0;
        matches.fresh = false;
        findings.fresh = false;
    }

    public int vows() {
        int fault = reader.readVows(country);
        tape.empty();
        if (fault == 0) {
            lineCount = reader.lineCount;
            System.arraycopy(reader.lines, 0, lines, 0, MOST_LINES);
        }
        return fault;
    }

    public int will() {
        int fault = reader.readWill();
        tape.empty();
        if (fault == 0) {
            now.heirs = reader.heirs;
            System.arraycopy(reader.wants, 0, now.wants, 0, MOST_HEIRS);
        }
        return fault;
    }

    // ---- what is so now

    private boolean isRiver(int river) {
        return river >= 0 && river < country.rivers;
    }

    private static boolean isSeason(int season) {
        return season >= 0 && season < SEASONS;
    }

    private boolean areTwo(int one, int other) {
        return isRiver(one) && isRiver(other) && one != other;
    }

    private boolean hasTown(int river) {
        return isRiver(river) && country.row[river].townAt != NONE;
    }

    private int season() {
        return now.passed % SEASONS;
    }

    /** The net as all are wed now. */
    private Net netNow() {
        net.lay(country, now.husband);
        return net;
    }

    private int mouthFlow(int river, int season) {
        return country.water(netNow().whole[river], season);
    }

    /** The rivers whose water comes by the town of a river that has one. */
    private int townWaters(int river) {
        return netNow().waters(river, country.row[river].townAt);
    }

    public int river(int river, int what) throws NoSuchElementException {
        if (!isRiver(river) || what < 0 || what > 8) {
            throw new NoSuchElementException("no such river, or nothing such of it");
        }
        River it = country.row[river];
        switch (what) {
            case 0:
                return it.kind;
            case 1:
                return it.from;
            case 2:
                return it.to;
            case 3:
                return it.place;
            case 4:
                return it.mother;
            case 5:
                return now.husband[river];
            case 6:
                return netNow().wives(river);
            case 7:
                return now.silt[river];
            default:
                return now.owed[river];
        }
    }

    public int flow(int river, int height, int season) {
        if (!isRiver(river) || !isSeason(season)) {
            return NONE;
        }
        River it = country.row[river];
        if (height > it.from || height < it.to) {
            return NONE;
        }
        return country.water(netNow().waters(river, height), season);
    }

    public int needs(int what) {
        if (what == 0) {
            return netNow().dryMills(season());
        }
        if (what == 1) {
            return netNow().floodedTowns(season());
        }
        return NONE;
    }

    public int near(int one, int other) {
        return isRiver(one) && isRiver(other) ? country.kinSteps(one, other) : NONE;
    }

    public int dig(int one, int other) {
        return areTwo(one, other) ? country.digging(one, other) : NONE;
    }

    public int may(int river) {
        if (!isRiver(river)) {
            return NONE;
        }
        Net wed = netNow();
        int men = 0;
        for (int man = 0; man < country.rivers; man++) {
            if (wed.allows(river, man)) {
                men |= 1 << man;
            }
        }
        return men;
    }

    public int ends() {
        int wedded = 0;
        for (int wife = 0; wife < country.rivers; wife++) {
            int men = country.fits[wife];
            if (men != 0) {
                wedded |= men | 1 << wife;
            }
        }
        return country.all() & ~wedded;
    }

    // ---- what is done by hand

    private void keepForUndo() {
        undoable[undoNext].takeBonds(now);
        undoNext = (undoNext + 1) % MOST_UNDONE;
        if (undoCount < MOST_UNDONE) {
            undoCount++;
        }
    }

    public int wed(int wife, int husband) {
        if (!areTwo(wife, husband) || !netNow().allows(wife, husband)) {
            return NONE;
        }
        River bride = country.row[wife];
        int dowry = country.dowry.held(mouthFlow(wife, season()), bride.from - bride.to,
                country.kinSteps(wife, husband), country.digging(wife, husband));
        keepForUndo();
        now.husband[wife] = husband;
        now.owed[wife] -= dowry;
        now.owed[husband] += dowry;
        return dowry;
    }

    public boolean part(int wife) {
        if (!isRiver(wife) || now.husband[wife] == NONE) {
            return false;
        }
        keepForUndo();
        now.husband[wife] = NONE;
        return true;
    }

    public int seasons(int many) {
        if (many < 1 || many > 100) {
            return NONE;
        }
        for (int i = 0; i < many; i++) {
            // Nobody weds meanwhile, so what one year brings each year brings.
            if (i < SEASONS) {
                reckonGrowth();
            }
            passSeason();
        }
        return now.passed;
    }

    private void reckonGrowth() {
        int season = season();
        for (int river = 0; river < country.rivers; river++) {
            River it = country.row[river];
            growth[season * MOST_RIVERS + river] =
                    country.silt.held(mouthFlow(river, season), it.from - it.to, 0, 0);
        }
    }

    private void passSeason() {
        keepForUndo();
        int first = season() * MOST_RIVERS;
        for (int river = 0; river < country.rivers; river++) {
            now.silt[river] += growth[first + river];
        }
        now.passed++;
    }

    public boolean undo() {
        if (undoCount == 0) {
            return false;
        }
        undoCount--;
        undoNext = (undoNext + MOST_UNDONE - 1) % MOST_UNDONE;
        now.takeBonds(undoable[undoNext]);
        return true;
    }

    public boolean mark(int mark, boolean back) {
        if (mark < 0 || mark >= MARKS || back && !marks[mark].laid) {
            return false;
        }
        if (back) {
            now.takeAll(marks[mark]);
            undoCount = 0;
            findings.fresh = false;
        } else {
            marks[mark].takeAll(now);
            marks[mark].laid = true;
        }
        return true;
    }

    // ---- the vows judged

    public int judged(int what) {
        if (what < 0 || what > 2) {
            return NOT_SAID;
        }
        net.clear(country);
        int season = 0;
        int refused = NONE;
        int needy = NONE;
        for (int i = 0; i < lineCount; i++) {
            if (!keepVow(lines[i])) {
                refused = refused == NONE ? i : refused;
                continue;
            }
            if (deed(lines[i]) == SEASON) {
                season = (season + 1) % SEASONS;
            }
            if (needy == NONE && net.isNeedy(season)) {
                needy = i;
            }
        }
        if (what == 2) {
            return net.weddings();
        }
        return what == 0 ? refused : needy;
    }

    private static int lineOf(int deed, int one, int other) {
        return deed + 4 * one + 32 * other;
    }

    private static int deed(int line) {
        return line & 3;
    }

    /** Does in the net what a line says; false: it can't be. */
    private boolean keepVow(int line) {
        int one = line >> 2 & 7;
        int other = line >> 5 & 7;
        if (deed(line) == SEASON) {
            return true;
        }
        if (deed(line) == PARTING) {
            return net.release(one);
        }
        if (!net.allows(one, other)) {
            return false;
        }
        net.join(one, other);
        return true;
    }

    // ---- ranges, love and names

    public int worn(int one, int other) {
        return areTwo(one, other) ? wearing(one, other) : NONE;
    }

    private int wearing(int one, int other) {
        int thick = country.thickness(one, other);
        if (thick == 0) {
            return 0;
        }
        int both = 1 << one | 1 << other;
        int gone = 0;
        for (int passed = 0; passed < MOST_WORN; passed++) {
            gone += country.water(both, (now.passed + passed) % SEASONS) / 10;
            if (gone >= thick) {
                return passed + 1;
            }
        }
        return NONE;
    }

    public int love(int river) {
        if (!isRiver(river)) {
            return NONE;
        }
        int beloved = NONE;
        int soonest = MOST_WORN + 1;
        for (int other = 0; other < country.rivers; other++) {
            // Without a range between them two are worn through at 0, and do not count.
            int seasons = other == river ? NONE : wearing(river, other);
            if (seasons > 0 && seasons < soonest) {
                soonest = seasons;
                beloved = other;
            }
        }
        return beloved;
    }

    public int hyphen(int river) {
        if (!isRiver(river)) {
            return NONE;
        }
        int whole = netNow().whole[river];
        int signs = Integer.bitCount(whole) - 1;
        for (int r = 0; r < country.rivers; r++) {
            if ((whole >> r & 1) != 0) {
                signs += country.row[r].letters;
            }
        }
        return signs;
    }

    // ---- ways to wed

    public int match(int what) {
        if (what < 0 || what >= 3 + country.rivers) {
            return NOT_SAID;
        }
        matches.refresh(country);
        if (matches.ways == 0) {
            return NOT_SAID;
        }
        switch (what) {
            case 0:
                return matches.leastDigging;
            case 1:
                return matches.fewest;
            case 2:
                return matches.ways;
            default:
                return matches.husband[what - 3];
        }
    }

    public int chain(int from, int to, int what) {
        if (!areTwo(from, to) || what < 0) {
            return NONE;
        }
        priceChains(to);
        int whole = price[from];
        if (whole == NONE) {
            return NONE;
        }
        if (what == 0) {
            return whole / Land.STEP;
        }
        int weddings = whole % Land.STEP;
        if (what == 1) {
            return weddings;
        }
        return what - 2 <= weddings ? chainLink(from, what - 2) : NONE;
    }

    /**
     * On a row of rivers that are all different neither pride nor a ring can forbid a wedding, so
     * it is a shortest way; a price holds the digging, and below it the weddings.
     */
    private void priceChains(int to) {
        for (int r = 0; r < MOST_RIVERS; r++) {
            price[r] = r == to ? 0 : NONE;
        }
        for (int round = 0; round < MOST_RIVERS; round++) {
            for (int wife = 0; wife < country.rivers; wife++) {
                cheapen(wife);
            }
        }
    }

    private void cheapen(int wife) {
        for (int man = 0; man < country.rivers; man++) {
            int by = priceBy(wife, man);
            if (by != NONE && (price[wife] == NONE || by < price[wife])) {
                price[wife] = by;
            }
        }
    }

    private int priceBy(int wife, int man) {
        if ((country.fits[wife] >> man & 1) == 0 || price[man] == NONE) {
            return NONE;
        }
        return price[man] + country.digging(wife, man) * Land.STEP + 1;
    }

    private int chainLink(int from, int links) {
        int at = from;
        for (int i = 0; i < links; i++) {
            int next = NONE;
            for (int man = 0; man < country.rivers && next == NONE; man++) {
                if (priceBy(at, man) == price[at]) {
                    next = man;
                }
            }
            if (next == NONE) {
                return NONE;
            }
            at = next;
        }
        return at;
    }

    public int peace() {
        int wed = 0;
        for (int r = 0; r < country.rivers; r++) {
            if (now.husband[r] != NONE) {
                wed |= 1 << r;
            }
        }
        int best = NONE;
        for (int parted = 0; parted < SETS; parted++) {
            boolean fewer = best == NONE || Integer.bitCount(parted) < Integer.bitCount(best);
            if ((parted & ~wed) == 0 && fewer && isPeace(parted)) {
                best = parted;
            }
        }
        return best;
    }

    private boolean isPeace(int parted) {
        Net left = netNow();
        for (int r = 0; r < country.rivers; r++) {
            if ((parted >> r & 1) != 0) {
                left.release(r);
            }
        }
        return !left.isNeedy(season());
    }

    public int cathedral(int season) {
        if (!isSeason(season)) {
            return NONE;
        }
        Net wed = netNow();
        int best = NONE;
        int most = NONE;
        for (int wife = 0; wife < country.rivers; wife++) {
            int man = now.husband[wife];
            if (man != NONE) {
                int there = country.water(wed.waters(man, country.row[wife].to), season);
                if (there > most) {
                    most = there;
                    best = wife;
                }
            }
        }
        return best;
    }

    public int eddies() {
        int pairs = 0;
        for (int one = 0; one < country.rivers; one++) {
            for (int other = one + 1; other < country.rivers; other++) {
                boolean sameMan = now.husband[one] != NONE && now.husband[one] == now.husband[other];
                if (sameMan && country.row[one].to == country.row[other].to) {
                    pairs++;
                }
            }
        }
        return pairs;
    }

    // ---- towns, storms and the will

    public int worst(int river, int what) throws NoSuchElementException {
        if (!hasTown(river) || what < 0 || what > 1) {
            throw new NoSuchElementException("no such town, or nothing such of it");
        }
        int waters = townWaters(river);
        int worst = 0;
        for (int season = 1; season < SEASONS; season++) {
            if (country.water(waters, season) > country.water(waters, worst)) {
                worst = season;
            }
        }
        if (what == 0) {
            return worst;
        }
        // Storms that never come are none that there can be.
        int storms = country.chance == 0 ? 0 : Integer.bitCount(waters) * country.more;
        return country.water(waters, worst) + storms - country.row[river].townHolds;
    }

    public int share(int river, int season, int heir) {
        if (!isRiver(river) || !isSeason(season) || heir < 0 || heir >= now.heirs) {
            return NONE;
        }
        int all = 0;
        for (int i = 0; i < now.heirs; i++) {
            all += now.wants[i];
        }
        if (all == 0) {
            return 0;
        }
        return shareOf(heir, mouthFlow(river, season), all);
    }

    private int shareOf(int heir, int flow, int all) {
        if (all <= 0) {
            return 0;
        }
        int rest = flow * now.wants[heir] % all;
        int left = flow;
        int ahead = 0;
        for (int i = 0; i < now.heirs; i++) {
            int due = flow * now.wants[i];
            left -= due / all;
            if (due % all > rest || due % all == rest && i < heir) {
                ahead++;
            }
        }
        return flow * now.wants[heir] / all + (ahead < left ? 1 : 0);
    }

    public int storms(int river, int season) {
        if (!hasTown(river) || !isSeason(season)) {
            return NONE;
        }
        return country.floodChance(townWaters(river), season, country.row[river].townHolds);
    }

    public int walls(int river, int season, int millionths) {
        if (!hasTown(river) || !isSeason(season) || millionths < 0 || millionths > MILLION) {
            return NONE;
        }
        int waters = townWaters(river);
        int flow = country.water(waters, season);
        int holds = 0;
        // The chance falls only where the walls hold one storm more, so no other height can be the least.
        for (int storms = 0; storms <= MOST_RIVERS; storms++) {
            if (country.floodChance(waters, season, holds) <= millionths) {
                return holds;
            }
            holds = flow + storms * country.more;
        }
        return holds;
    }

    // ---- what is told and what is found by it

    public boolean tell(int river, int season, int flow) {
        if (!isRiver(river) || !isSeason(season) || flow < 0 || flow > 9999 || now.told >= MOST_TOLD) {
            return false;
        }
        now.toldRiver[now.told] = river;
        now.toldSeason[now.told] = season;
        now.toldFlow[now.told] = flow;
        now.told++;
        findings.fresh = false;
        return true;
    }

    public int found(int what) {
        if (what < 0 || what >= 2 + country.rivers) {
            return NOT_FOUND;
        }
        findings.refresh(country);
        if (what == 0) {
            return findings.ways;
        }
        if (findings.ways == 0) {
            return NOT_FOUND;
        }
        return what == 1 ? findings.bore : findings.husband[what - 2];
    }

    // ---- bids, dams and centuries

    public int rests(int wife, int one, int other, int what) {
        if (!isRiver(wife) || !areTwo(one, other) || what < NONE) {
            return NONE;
        }
        Net wed = netNow();
        if (!wed.allows(wife, one) || !wed.allows(wife, other)) {
            return NONE;
        }
        int worth = mouthFlow(wife, season()) / 5;
        int many = 0;
        for (int first = 0; first <= MOST_BID; first++) {
            for (int second = 0; second <= MOST_BID; second++) {
                if (areAtRest(first, second, worth)) {
                    if (many == what) {
                        return 10 * first + second;
                    }
                    many++;
                }
            }
        }
        return what == NONE ? many : NONE;
    }

    private static boolean areAtRest(int first, int second, int worth) {
        int firstHas = first >= second ? worth - first : 0;
        int secondHas = second > first ? worth - second : 0;
        for (int bid = 0; bid <= MOST_BID; bid++) {
            int firstWould = bid >= second ? worth - bid : 0;
            int secondWould = bid > first ? worth - bid : 0;
            if (firstWould > firstHas || secondWould > secondHas) {
                return false;
            }
        }
        return true;
    }

    public int dams(int first, int second, int what) {
        if (!areTwo(first, second) || what < 0 || what > 1) {
            return NONE;
        }
        int mine = Math.min(country.water(1 << first, season()), MOST_PARTS);
        int theirs = Math.min(country.water(1 << second, season()), MOST_PARTS);
        int take = winningTake(mine, theirs);
        if (what == 1) {
            return take;
        }
        return take == NONE ? 0 : 1;
    }

    /** By takes of 1 to 3 who is to move loses just where both leave the same rest by 4. */
    private static int winningTake(int mine, int theirs) {
        for (int take = 1; take <= 3; take++) {
            if (take <= mine && (mine - take) % 4 == theirs % 4) {
                return take;
            }
        }
        for (int take = 1; take <= 3; take++) {
            if (take <= theirs && (theirs - take) % 4 == mine % 4) {
                return take + 3;
            }
        }
        return NONE;
    }

    public int centuries(int seed, int seasons, int what) {
        if (seed < 0 || seed > 9999 || seasons < 1 || seasons > 100) {
            return NONE;
        }
        if (what < 0 || what > 2 || country.rivers == 0) {
            return NONE;
        }
        netNow();
        long g = seed;
        int dry = 0;
        int flooded = 0;
        for (int i = 0; i < seasons; i++) {
            g = stir(g);
            int fate = drawn(g, 10);
            g = befall(fate, g);
            int season = (now.passed + i) % SEASONS + (fate == 0 ? SEASONS : 0);
            dry += Integer.bitCount(net.dryMills(season));
            flooded += Integer.bitCount(net.floodedTowns(season));
        }
        if (what == 2) {
            return net.weddings();
        }
        return what == 0 ? dry : flooded;
    }

    /** An elopement or a divorce in the net; what the draws are at then. */
    private long befall(int fate, long g) {
        long drawing = g;
        if (fate == 1) {
            drawing = stir(drawing);
            int wife = drawn(drawing, country.rivers);
            drawing = stir(drawing);
            int man = drawn(drawing, country.rivers);
            if (net.allows(wife, man)) {
                net.join(wife, man);
            }
        } else if (fate == 2) {
            drawing = stir(drawing);
            net.release(drawn(drawing, country.rivers));
        }
        return drawing;
    }

    private static long stir(long g) {
        return (g * 1103515245L + 12345L) % 2147483648L;
    }

    private static int drawn(long g, int below) {
        return below > 0 ? (int) (g / 65536L % below) : 0;
    }

    public int count(int what) {
        switch (what) {
            case 0:
                return country.rivers;
            case 1:
                return country.ranges;
            case 2:
                return now.passed;
            case 3:
                return netNow().weddings();
            case 4:
                return lineCount;
            case 5:
                return now.heirs;
            case 6:
                return now.told;
            case 7:
                return country.kin;
            case 8:
                return undoCount;
            case 9:
                return tape.length;
            default:
                return NONE;
        }
    }

    /** The words that mean something: reserved ones are no names, facts may be names too. */
    private enum Word {
        RIVER("river"), FROM("from"), TO("to"), PLACE("place"), WATER("water"), MILL("mill"),
        TOWN("town"), AT("at"), OF("of"), RANGE("range"), THICK("thick"), KIN("kin"),
        STORM("storm"), BY("by"), DOWRY("dowry"), SILT("silt"), WED("wed"), PART("part"),
        SEASON("season"), HEIR("heir"), NOT("not"), AND("and"), OR("or"),
        BROOK("brook", 0), PROUD("proud", 1), CLEAR("clear", 2), SALT("salt", 3),
        FLOW("flow", false), FALL("fall", false), NEAR("near", false), DIG("dig", false);

        final long key;
        final boolean reserved;
        final int kind;

        Word(String text) {
            key = keyOf(text);
            reserved = true;
            kind = NONE;
        }

        Word(String text, int kind) {
            key = keyOf(text);
            reserved = true;
            this.kind = kind;
        }

        Word(String text, boolean reserved) {
            key = keyOf(text);
            this.reserved = reserved;
            kind = NONE;
        }

        private static long keyOf(String text) {
            long key = 0;
            for (int i = 0; i < text.length(); i++) {
                key = keyWith(key, text.charAt(i));
            }
            return key;
        }

        /** Five bits a letter: each word has a number of its own, and there is no text to make. */
        static long keyWith(long key, char letter) {
            return key * 32 + (letter - 'a' + 1);
        }
    }

    /** The tape, its tokens, and the token at hand. */
    private static final class Scanner {
        static final int END = 0;
        static final int BAD = 1;
        static final int NAMED = 2;
        static final int NUMBER = 3;
        static final int SIGN = 4;
        private static final int MOST_LETTERS = 8;
        private static final int MOST_DIGITS = 4;
        private static final String SIGNS = "()<=+-*;";
        private static final Word[] WORDS = Word.values();

        private final char[] signs = new char[MOST_SIGNS];
        private final int[] kinds = new int[MOST_SIGNS + 1];
        private final int[] starts = new int[MOST_SIGNS + 1];
        /** A word's key, a number, or a sign. */
        private final long[] keys = new long[MOST_SIGNS + 1];
        private int tokens;
        private int next;
        int length;
        int kind;
        int start;
        int letters;
        long key;
        Word word;

        void put(int sign) {
            boolean plain = sign == 10 || sign >= 32 && sign <= 126;
            if (plain && length < MOST_SIGNS) {
                signs[length] = (char) sign;
                length++;
            }
        }

        void empty() {
            length = 0;
        }

        /** Cuts the tape into tokens and takes the first one. */
        void begin() {
            tokens = 0;
            int behind = 0;
            for (int at = 0; at < length; at++) {
                if (at >= behind && signs[at] != 10 && signs[at] != 32) {
                    behind = cut(at);
                }
            }
            keep(END, length, 0);
            next = 0;
            advance();
        }

        /** Takes the next token; behind the end there is the end. */
        void advance() {
            kind = kinds[next];
            start = starts[next];
            key = keys[next];
            letters = 0;
            for (int i = 0; i < MOST_LETTERS && kind == NAMED; i++) {
                letters += (key >> 5 * i) > 0 ? 1 : 0;
            }
            word = null;
            for (int i = 0; kind == NAMED && i < WORDS.length; i++) {
                if (WORDS[i].key == key) {
                    word = WORDS[i];
                }
            }
            if (next < tokens - 1) {
                next++;
            }
        }

        private void keep(int kind, int start, long key) {
            if (tokens <= MOST_SIGNS) {
                kinds[tokens] = kind;
                starts[tokens] = start;
                keys[tokens] = key;
                tokens++;
            }
        }

        /** Cuts one token; the place behind it. */
        private int cut(int at) {
            if (isLetter(at)) {
                return cutWord(at);
            }
            if (isDigit(at)) {
                return cutNumber(at);
            }
            keep(SIGNS.indexOf(signs[at]) >= 0 ? SIGN : BAD, at, signs[at]);
            return at + 1;
        }

        private boolean isLetter(int at) {
            return signs[at] >= 'a' && signs[at] <= 'z';
        }

        private boolean isDigit(int at) {
            return signs[at] >= '0' && signs[at] <= '9';
        }

        private int cutWord(int at) {
            long word = 0;
            int behind = at;
            while (behind < length && isLetter(behind)) {
                word = Word.keyWith(word, signs[behind]);
                behind++;
            }
            keep(behind - at <= MOST_LETTERS ? NAMED : BAD, at, word);
            return behind;
        }

        private int cutNumber(int at) {
            long number = 0;
            int behind = at;
            while (behind < length && isDigit(behind)) {
                number = number * 10 + (signs[behind] - '0');
                behind++;
            }
            keep(behind - at <= MOST_DIGITS ? NUMBER : BAD, at, number);
            return behind;
        }
    }

    /** An E, as steps over a stack. */
    private static final class Formula {
        static final int FLOW = -1;
        static final int FALL = -2;
        static final int NEAR = -3;
        static final int DIG = -4;
        static final int NOT = -5;
        static final int AND = -6;
        static final int OR = -7;
        static final int LESS = -8;
        static final int SAME = -9;
        static final int PLUS = -10;
        static final int MINUS = -11;
        static final int TIMES = -12;
        static final int NOTHING = -13;
        /** Four operands may wait in each of five nested ones. */
        private static final int MOST_WAITING = 32;
        private static final int LEAST_HELD = 0;
        private static final int MOST_HELD = 99;

        private final int[] steps = new int[MOST_SIGNS];
        private final int[] stack = new int[MOST_WAITING];
        private int length;

        void clear() {
            length = 0;
        }

        void add(int step) {
            if (length < steps.length) {
                steps[length] = step;
                length++;
            }
        }

        /** Its value, no less than 0 and no more than 99. */
        int held(int flow, int fall, int near, int dig) {
            int value = value(flow, fall, near, dig);
            return Math.max(LEAST_HELD, Math.min(MOST_HELD, value));
        }

        private int value(int flow, int fall, int near, int dig) {
            int top = 0;
            for (int i = 0; i < length; i++) {
                int step = steps[i];
                if (step >= DIG) {
                    if (top >= MOST_WAITING) {
                        return 0;
                    }
                    stack[top] = fact(step, flow, fall, near, dig);
                    top++;
                } else if (step == NOT) {
                    if (top < 1) {
                        return 0;
                    }
                    stack[top - 1] = bit(stack[top - 1] == 0);
                } else {
                    if (top < 2) {
                        return 0;
                    }
                    top--;
                    stack[top - 1] = joined(step, stack[top - 1], stack[top]);
                }
            }
            return top > 0 ? stack[top - 1] : 0;
        }

        private static int fact(int step, int flow, int fall, int near, int dig) {
            switch (step) {
                case FLOW:
                    return flow;
                case FALL:
                    return fall;
                case NEAR:
                    return near;
                case DIG:
                    return dig;
                default:
                    return step;
            }
        }

        private static int joined(int step, int left, int right) {
            switch (step) {
                case AND:
                    return bit(left != 0 && right != 0);
                case OR:
                    return bit(left != 0 || right != 0);
                case LESS:
                    return bit(left < right);
                case SAME:
                    return bit(left == right);
                case PLUS:
                    return left + right;
                case MINUS:
                    return left - right;
                default:
                    return left * right;
            }
        }

        private static int bit(boolean so) {
            return so ? 1 : 0;
        }
    }

    /** What is told of one river; a mill or a town that is not there stands at NONE. */
    private static final class River {
        final int[] water = new int[SEASONS];
        long key;
        int letters;
        int kind;
        int from;
        int to;
        int place;
        int millWants;
        int millAt;
        int townHolds;
        int townAt;
        int mother;

        void clear() {
            millAt = NONE;
            townAt = NONE;
            mother = NONE;
        }
    }

    /** A land as told, and what follows from it alone. */
    private static final class Land {
        /** More weddings than this no chain has: a price's digging stands above them. */
        static final int STEP = 16;
        /** Behind the four seasons and their droughts: what a set has at the least and at the most. */
        static final int LEAST = 2 * SEASONS;
        static final int MOST = LEAST + 1;
        private static final int WATER_ROWS = MOST + 1;

        final River[] row = new River[MOST_RIVERS];
        final int[] rangeAt = new int[MOST_RANGES];
        final int[] rangeThick = new int[MOST_RANGES];
        final Formula dowry = new Formula();
        final Formula silt = new Formula();
        /** Whom each might wed if nobody were wed. */
        final int[] fits = new int[MOST_RIVERS];
        /** The own water of each set of rivers, a row of sets for each season that water() knows. */
        private final int[] sums = new int[WATER_ROWS * SETS];
        int rivers;
        int ranges;
        int kin;
        int chance;
        int more;

        Land() {
            for (int i = 0; i < row.length; i++) {
                row[i] = new River();
            }
            dowry.add(1);
            silt.add(0);
        }

        void clear() {
            rivers = 0;
            ranges = 0;
            kin = 0;
            chance = 0;
            more = 0;
            dowry.clear();
            dowry.add(1);
            silt.clear();
            silt.add(0);
        }

        int riverNamed(long key) {
            for (int r = 0; r < rivers; r++) {
                if (row[r].key == key) {
                    return r;
                }
            }
            return NONE;
        }

        boolean hasRange(int place) {
            for (int i = 0; i < ranges; i++) {
                if (rangeAt[i] == place) {
                    return true;
                }
            }
            return false;
        }

        /** Reckons what follows when all is told. */
        void settle() {
            for (int wife = 0; wife < rivers; wife++) {
                fits[wife] = 0;
                for (int man = 0; man < rivers; man++) {
                    if (isFit(wife, man)) {
                        fits[wife] |= 1 << man;
                    }
                }
            }
            for (int season = 0; season < SEASONS; season++) {
                sumUp(season);
            }
            compareSeasons();
        }

        private boolean isFit(int wife, int man) {
            River she = row[wife];
            River he = row[man];
            return wife != man && she.kind != SALT && he.kind != SALT && she.to >= he.to
                    && he.from > she.to && kinSteps(wife, man) > kin;
        }

        private void sumUp(int season) {
            int usual = season * SETS;
            int drought = (season + SEASONS) * SETS;
            sums[usual] = 0;
            sums[drought] = 0;
            for (int r = 0; r < rivers; r++) {
                int own = row[r].water[season];
                for (int set = 0; set < 1 << r; set++) {
                    int with = set | 1 << r;
                    sums[usual + with] = sums[usual + set] + own;
                    sums[drought + with] = sums[drought + set] + own / 2;
                }
            }
        }

        private void compareSeasons() {
            for (int set = 0; set < 1 << rivers; set++) {
                int least = sums[set];
                int most = sums[set];
                for (int season = 1; season < SEASONS; season++) {
                    least = Math.min(least, sums[season * SETS + set]);
                    most = Math.max(most, sums[season * SETS + set]);
                }
                sums[LEAST * SETS + set] = least;
                sums[MOST * SETS + set] = most;
            }
        }

        int all() {
            return (1 << rivers) - 1;
        }

        /** The own water of a set of rivers; seasons 4 to 7 are droughts, then LEAST and MOST. */
        int water(int set, int season) {
            boolean known = season >= 0 && season < WATER_ROWS && set >= 0 && set < SETS;
            return known ? sums[season * SETS + set] : 0;
        }

        /** Each has one mother at most: the first one that both come from lies on the only way. */
        int kinSteps(int one, int other) {
            int up = one;
            for (int steps = 0; steps < MOST_RIVERS && up != NONE; steps++) {
                int across = other;
                for (int back = 0; back < MOST_RIVERS && across != NONE; back++) {
                    if (up == across) {
                        return steps + back;
                    }
                    across = row[across].mother;
                }
                up = row[up].mother;
            }
            return NOT_KIN;
        }

        int thickness(int one, int other) {
            int low = Math.min(row[one].place, row[other].place);
            int high = Math.max(row[one].place, row[other].place);
            int thick = 0;
            for (int i = 0; i < ranges; i++) {
                if (rangeAt[i] > low && rangeAt[i] < high) {
                    thick += rangeThick[i];
                }
            }
            return thick;
        }

        int digging(int one, int other) {
            return Math.abs(row[one].place - row[other].place) + thickness(one, other);
        }

        /** The chance in millionths that more comes of these waters than the walls hold. */
        int floodChance(int waters, int season, int holds) {
            int many = Integer.bitCount(waters);
            int flow = water(waters, season);
            int sum = 0;
            for (int storms = 0; storms <= many; storms++) {
                if (flow + storms * more > holds) {
                    sum += chanceOf(storms, many);
                }
            }
            return sum;
        }

        /** The chance in millionths of just so many storms over so many rivers. */
        private int chanceOf(int storms, int many) {
            int product = 1;
            for (int i = 0; i < storms; i++) {
                product = product * (many - i) / (i + 1);
            }
            for (int i = 0; i < MOST_RIVERS; i++) {
                int tenths = i < storms ? chance : 10 - chance;
                product *= i < many ? tenths : 10;
            }
            return product;
        }
    }

    /** Reads the tape as a land, vows or a will; the first fault ends it. */
    private static final class Reader {
        private static final int MISPLACED = 1;
        private static final int UNKNOWN = 2;
        private static final int AGAIN = 3;
        private static final int AMISS = 4;
        private static final int TOO_MANY = 5;
        private static final int MOST_WITHIN = 5;

        private static final int KIN_TOLD = 1;
        private static final int STORM_TOLD = 2;
        private static final int DOWRY_TOLD = 4;
        private static final int SILT_TOLD = 8;

        final int[] lines = new int[MOST_LINES];
        final int[] wants = new int[MOST_HEIRS];
        int lineCount;
        int heirs;
        private final Scanner scan;
        private Land land;
        private Formula formula;
        private boolean isDowry;
        private int onceTold;
        private int value;
        private int fault;

        Reader(Scanner scan, Land land) {
            this.scan = scan;
            this.land = land;
            formula = land.dowry;
        }

        int readLand(Land draft) {
            begin(draft);
            draft.clear();
            onceTold = 0;
            for (int i = 0; i <= MOST_SIGNS && goesOn(); i++) {
                if (landLine()) {
                    lineEnd();
                }
            }
            if (fault == 0) {
                draft.settle();
            }
            return fault;
        }

        int readVows(Land told) {
            begin(told);
            lineCount = 0;
            for (int i = 0; i <= MOST_LINES && goesOn(); i++) {
                if (vowLine()) {
                    lineEnd();
                }
            }
            return fault;
        }

        int readWill() {
            begin(land);
            heirs = 0;
            for (int i = 0; i <= MOST_HEIRS && goesOn(); i++) {
                if (heirLine()) {
                    lineEnd();
                }
            }
            return fault;
        }

        private void begin(Land told) {
            land = told;
            fault = 0;
            scan.begin();
        }

        private boolean goesOn() {
            return fault == 0 && scan.kind != Scanner.END;
        }

        private boolean fail(int kind) {
            fault = kind + 16 * scan.start;
            return false;
        }

        private boolean isSign(char sign) {
            return scan.kind == Scanner.SIGN && scan.key == sign;
        }

        private boolean lineEnd() {
            return passSign(';');
        }

        private boolean passSign(char sign) {
            if (!isSign(sign)) {
                return fail(MISPLACED);
            }
            scan.advance();
            return true;
        }

        private boolean passWord(Word word) {
            if (scan.word != word) {
                return fail(MISPLACED);
            }
            scan.advance();
            return true;
        }

        private boolean isNumber(int least, int most) {
            if (scan.kind != Scanner.NUMBER) {
                return fail(MISPLACED);
            }
            if (scan.key < least || scan.key > most) {
                return fail(AMISS);
            }
            value = (int) scan.key;
            return true;
        }

        private boolean passNumber(int least, int most) {
            if (!isNumber(least, most)) {
                return false;
            }
            scan.advance();
            return true;
        }

        private boolean numberBehind(Word word, int least, int most) {
            if (!passWord(word) || !isNumber(least, most)) {
                return false;
            }
            scan.advance();
            return true;
        }

        private boolean isName() {
            boolean free = scan.word == null || !scan.word.reserved;
            return scan.kind == Scanner.NAMED && free || fail(MISPLACED);
        }

        /** Whether a river's name stands here; value is the river then. */
        private boolean isToldName() {
            if (!isName()) {
                return false;
            }
            value = land.riverNamed(scan.key);
            return value != NONE || fail(UNKNOWN);
        }

        // ---- a land

        private boolean landLine() {
            if (scan.word == null) {
                return fail(MISPLACED);
            }
            switch (scan.word) {
                case RIVER:
                    return riverLine();
                case RANGE:
                    return rangeLine();
                case KIN:
                    return kinLine();
                case STORM:
                    return stormLine();
                case DOWRY:
                    return formulaLine(DOWRY_TOLD);
                case SILT:
                    return formulaLine(SILT_TOLD);
                default:
                    return fail(MISPLACED);
            }
        }

        private boolean riverLine() {
            if (land.rivers >= MOST_RIVERS) {
                return fail(TOO_MANY);
            }
            scan.advance();
            River river = land.row[land.rivers];
            river.clear();
            boolean good = riverName(river) && riverKind(river) && riverCourse(river)
                    && riverWater(river) && riverMill(river) && riverTown(river)
                    && riverMother(river);
            if (good) {
                land.rivers++;
            }
            return good;
        }

        private boolean riverName(River river) {
            if (!isName()) {
                return false;
            }
            if (land.riverNamed(scan.key) != NONE) {
                return fail(AGAIN);
            }
            river.key = scan.key;
            river.letters = scan.letters;
            scan.advance();
            return true;
        }

        private boolean riverKind(River river) {
            if (scan.word == null || scan.word.kind == NONE) {
                return fail(MISPLACED);
            }
            river.kind = scan.word.kind;
            scan.advance();
            return true;
        }

        private boolean riverCourse(River river) {
            if (!numberBehind(Word.FROM, 1, 99)) {
                return false;
            }
            river.from = value;
            if (!numberBehind(Word.TO, 0, river.from - 1)) {
                return false;
            }
            river.to = value;
            if (!numberBehind(Word.PLACE, 0, 99)) {
                return false;
            }
            river.place = value;
            return true;
        }

        private boolean riverWater(River river) {
            if (!passWord(Word.WATER)) {
                return false;
            }
            for (int season = 0; season < SEASONS; season++) {
                if (!passNumber(0, 99)) {
                    return false;
                }
                river.water[season] = value;
            }
            return true;
        }

        private boolean riverMill(River river) {
            if (scan.word != Word.MILL) {
                return true;
            }
            if (!numberBehind(Word.MILL, 1, 999)) {
                return false;
            }
            river.millWants = value;
            if (!numberBehind(Word.AT, river.to, river.from)) {
                return false;
            }
            river.millAt = value;
            return true;
        }

        private boolean riverTown(River river) {
            if (scan.word != Word.TOWN) {
                return true;
            }
            if (!numberBehind(Word.TOWN, 0, 999)) {
                return false;
            }
            river.townHolds = value;
            if (!numberBehind(Word.AT, river.to, river.from)) {
                return false;
            }
            river.townAt = value;
            return true;
        }

        private boolean riverMother(River river) {
            if (scan.word != Word.OF) {
                return true;
            }
            scan.advance();
            if (!isToldName()) {
                return false;
            }
            river.mother = value;
            scan.advance();
            return true;
        }

        private boolean rangeLine() {
            if (land.ranges >= MOST_RANGES) {
                return fail(TOO_MANY);
            }
            scan.advance();
            if (!isNumber(0, 99)) {
                return false;
            }
            int place = value;
            if (land.hasRange(place)) {
                return fail(AGAIN);
            }
            scan.advance();
            if (!numberBehind(Word.THICK, 1, 99)) {
                return false;
            }
            land.rangeAt[land.ranges] = place;
            land.rangeThick[land.ranges] = value;
            land.ranges++;
            return true;
        }

        /** Passes the word of a line that may stand but once. */
        private boolean passOnce(int which) {
            if ((onceTold & which) != 0) {
                return fail(AGAIN);
            }
            onceTold |= which;
            scan.advance();
            return true;
        }

        private boolean kinLine() {
            if (!passOnce(KIN_TOLD) || !passNumber(0, 9)) {
                return false;
            }
            land.kin = value;
            return true;
        }

        private boolean stormLine() {
            if (!passOnce(STORM_TOLD) || !passNumber(0, 10)) {
                return false;
            }
            land.chance = value;
            if (!numberBehind(Word.BY, 0, 99)) {
                return false;
            }
            land.more = value;
            return true;
        }

        // ---- an E

        private boolean formulaLine(int which) {
            if (!passOnce(which)) {
                return false;
            }
            isDowry = which == DOWRY_TOLD;
            formula = isDowry ? land.dowry : land.silt;
            formula.clear();
            return expression(0);
        }

        private boolean expression(int within) {
            boolean good = test(within);
            for (int i = 0; i < MOST_SIGNS && good && isLink(); i++) {
                int step = scan.word == Word.AND ? Formula.AND : Formula.OR;
                scan.advance();
                good = test(within);
                formula.add(step);
            }
            return good;
        }

        private boolean isLink() {
            return scan.word == Word.AND || scan.word == Word.OR;
        }

        private boolean test(int within) {
            if (!sum(within)) {
                return false;
            }
            if (!isSign('<') && !isSign('=')) {
                return true;
            }
            int step = isSign('<') ? Formula.LESS : Formula.SAME;
            scan.advance();
            boolean good = sum(within);
            formula.add(step);
            return good;
        }

        private boolean sum(int within) {
            boolean good = product(within);
            for (int i = 0; i < MOST_SIGNS && good && (isSign('+') || isSign('-')); i++) {
                int step = isSign('+') ? Formula.PLUS : Formula.MINUS;
                scan.advance();
                good = product(within);
                formula.add(step);
            }
            return good;
        }

        private boolean product(int within) {
            boolean good = factor(within);
            for (int i = 0; i < MOST_SIGNS && good && isSign('*'); i++) {
                scan.advance();
                good = factor(within);
                formula.add(Formula.TIMES);
            }
            return good;
        }

        /** A PART, within so many of not and brackets. */
        private boolean factor(int within) {
            boolean opens = isSign('(');
            boolean denies = scan.word == Word.NOT;
            boolean counts = scan.kind == Scanner.NUMBER;
            int step = counts ? (int) scan.key : factStep();
            if (!opens && !denies && !counts && step == Formula.NOTHING) {
                return fail(MISPLACED);
            }
            if (within >= MOST_WITHIN) {
                return fail(TOO_MANY);
            }
            scan.advance();
            if (opens) {
                return expression(within + 1) && passSign(')');
            }
            if (denies) {
                boolean good = factor(within + 1);
                formula.add(Formula.NOT);
                return good;
            }
            formula.add(step);
            return true;
        }

        private int factStep() {
            if (scan.word == null) {
                return Formula.NOTHING;
            }
            switch (scan.word) {
                case FLOW:
                    return Formula.FLOW;
                case FALL:
                    return Formula.FALL;
                case NEAR:
                    return isDowry ? Formula.NEAR : Formula.NOTHING;
                case DIG:
                    return isDowry ? Formula.DIG : Formula.NOTHING;
                default:
                    return Formula.NOTHING;
            }
        }

        // ---- vows and a will

        private boolean vowLine() {
            boolean weds = scan.word == Word.WED;
            boolean parts = scan.word == Word.PART;
            if (!weds && !parts && scan.word != Word.SEASON) {
                return fail(MISPLACED);
            }
            if (lineCount >= MOST_LINES) {
                return fail(TOO_MANY);
            }
            scan.advance();
            int line = lineOf(SEASON, 0, 0);
            if (weds || parts) {
                if (!isToldName()) {
                    return false;
                }
                line = lineOf(PARTING, value, 0);
                scan.advance();
                if (weds) {
                    line = weddingLine(value);
                }
            }
            lines[lineCount] = line;
            lineCount++;
            return fault == 0;
        }

        private int weddingLine(int wife) {
            if (!isToldName()) {
                return 0;
            }
            if (value == wife) {
                fail(AGAIN);
                return 0;
            }
            scan.advance();
            return lineOf(WEDDING, wife, value);
        }

        private boolean heirLine() {
            if (scan.word != Word.HEIR) {
                return fail(MISPLACED);
            }
            if (heirs >= MOST_HEIRS) {
                return fail(TOO_MANY);
            }
            scan.advance();
            if (!passNumber(0, 99)) {
                return false;
            }
            wants[heirs] = value;
            heirs++;
            return true;
        }
    }

    /** All that a mark holds; of one that can be undone only the bonds count. */
    private static final class Standing {
        final int[] husband = new int[MOST_RIVERS];
        final int[] owed = new int[MOST_RIVERS];
        final int[] silt = new int[MOST_RIVERS];
        final int[] wants = new int[MOST_HEIRS];
        final int[] toldRiver = new int[MOST_TOLD];
        final int[] toldSeason = new int[MOST_TOLD];
        final int[] toldFlow = new int[MOST_TOLD];
        int passed;
        int heirs;
        int told;
        boolean laid;

        Standing() {
            heirs = NONE;
            for (int r = 0; r < MOST_RIVERS; r++) {
                husband[r] = NONE;
            }
        }

        void clear() {
            for (int r = 0; r < MOST_RIVERS; r++) {
                husband[r] = NONE;
                owed[r] = 0;
                silt[r] = 0;
            }
            passed = 0;
            heirs = NONE;
            told = 0;
        }

        void takeBonds(Standing from) {
            System.arraycopy(from.husband, 0, husband, 0, MOST_RIVERS);
            System.arraycopy(from.owed, 0, owed, 0, MOST_RIVERS);
            System.arraycopy(from.silt, 0, silt, 0, MOST_RIVERS);
            passed = from.passed;
        }

        void takeAll(Standing from) {
            takeBonds(from);
            System.arraycopy(from.wants, 0, wants, 0, MOST_HEIRS);
            System.arraycopy(from.toldRiver, 0, toldRiver, 0, MOST_TOLD);
            System.arraycopy(from.toldSeason, 0, toldSeason, 0, MOST_TOLD);
            System.arraycopy(from.toldFlow, 0, toldFlow, 0, MOST_TOLD);
            heirs = from.heirs;
            told = from.told;
        }
    }

    /** Who is wed to whom, to try things on; whole is what comes together at each mouth. */
    private static final class Net {
        final int[] husband = new int[MOST_RIVERS];
        final int[] whole = new int[MOST_RIVERS];
        Land land;

        Net(Land land) {
            this.land = land;
        }

        void clear(Land of) {
            land = of;
            for (int r = 0; r < MOST_RIVERS; r++) {
                husband[r] = NONE;
                whole[r] = 1 << r;
            }
        }

        void lay(Land of, int[] husbands) {
            clear(of);
            for (int wife = 0; wife < of.rivers && wife < husbands.length; wife++) {
                if (husbands[wife] != NONE) {
                    join(wife, husbands[wife]);
                }
            }
        }

        private boolean knows(int river) {
            return river >= 0 && river < land.rivers;
        }

        boolean allows(int wife, int man) {
            if (!knows(wife) || !knows(man) || husband[wife] != NONE) {
                return false;
            }
            boolean fit = (land.fits[wife] >> man & 1) != 0;
            boolean ring = (whole[wife] >> man & 1) != 0;
            boolean taken = land.row[man].kind == PROUD && whole[man] != 1 << man;
            return fit && !ring && !taken;
        }

        void join(int wife, int man) {
            if (!knows(wife)) {
                return;
            }
            husband[wife] = man;
            int at = man;
            for (int steps = 0; steps < MOST_RIVERS && knows(at); steps++) {
                whole[at] |= whole[wife];
                at = husband[at];
            }
        }

        /** False: it is not wed. */
        boolean release(int wife) {
            if (!knows(wife) || husband[wife] == NONE) {
                return false;
            }
            int at = husband[wife];
            for (int steps = 0; steps < MOST_RIVERS && knows(at); steps++) {
                whole[at] &= ~whole[wife];
                at = husband[at];
            }
            husband[wife] = NONE;
            return true;
        }

        int wives(int river) {
            int wives = 0;
            for (int r = 0; r < land.rivers; r++) {
                if (husband[r] == river) {
                    wives |= 1 << r;
                }
            }
            return wives;
        }

        int weddings() {
            int many = 0;
            for (int r = 0; r < land.rivers; r++) {
                if (husband[r] != NONE) {
                    many++;
                }
            }
            return many;
        }

        /** The rivers whose water flows in a river at a height. */
        int waters(int river, int height) {
            int set = 1 << river;
            River it = land.row[river];
            if (it.kind == CLEAR && height > it.to) {
                return set;
            }
            for (int wife = 0; wife < land.rivers; wife++) {
                if (husband[wife] == river && land.row[wife].to >= height) {
                    set |= whole[wife];
                }
            }
            return set;
        }

        int dryMills(int season) {
            int dry = 0;
            for (int r = 0; r < land.rivers; r++) {
                River it = land.row[r];
                if (it.millAt != NONE && it.millWants > land.water(waters(r, it.millAt), season)) {
                    dry |= 1 << r;
                }
            }
            return dry;
        }

        int floodedTowns(int season) {
            int flooded = 0;
            for (int r = 0; r < land.rivers; r++) {
                River it = land.row[r];
                if (it.townAt != NONE && it.townHolds < land.water(waters(r, it.townAt), season)) {
                    flooded |= 1 << r;
                }
            }
            return flooded;
        }

        boolean isNeedy(int season) {
            return dryMills(season) != 0 || floodedTowns(season) != 0;
        }
    }

    /** Goes through all ways in which rivers can be wed, the first row of husbands first. */
    private abstract static class Ways {
        final Net net;
        final int[] husband = new int[MOST_RIVERS];
        int ways;
        boolean fresh;

        Ways(Net net) {
            this.net = net;
        }

        abstract void begin();

        abstract void note(int digging, int weddings);

        abstract void end();

        /** Looks anew if what it hangs on has changed. */
        void refresh(Land land) {
            if (fresh) {
                return;
            }
            ways = 0;
            net.clear(land);
            begin();
            search(0, 0, 0);
            end();
            fresh = true;
        }

        private void search(int wife, int digging, int weddings) {
            if (wife >= net.land.rivers) {
                note(digging, weddings);
                return;
            }
            search(wife + 1, digging, weddings);
            for (int man = 0; man < net.land.rivers; man++) {
                if (net.allows(wife, man)) {
                    net.join(wife, man);
                    search(wife + 1, digging + net.land.digging(wife, man), weddings + 1);
                    net.release(wife);
                }
            }
        }
    }

    private static final class Matches extends Ways {
        int leastDigging;
        int fewest;

        Matches(Net net) {
            super(net);
        }

        void begin() {
            leastDigging = 0;
            fewest = 0;
        }

        void note(int digging, int weddings) {
            if (net.dryMills(Land.LEAST) != 0 || net.floodedTowns(Land.MOST) != 0) {
                return;
            }
            boolean better = digging < leastDigging
                    || digging == leastDigging && weddings < fewest;
            if (ways == 0 || better) {
                leastDigging = digging;
                fewest = weddings;
                System.arraycopy(net.husband, 0, husband, 0, MOST_RIVERS);
            }
            ways++;
        }

        void end() {
        }
    }

    /** The ways by which all that is told is so; a husband is -2 where not all have the same. */
    private static final class Findings extends Ways {
        int bore;
        private final Standing now;
        /** By how many ways each set of rivers comes together at each mouth. */
        private final int[] tally = new int[MOST_RIVERS * SETS];

        Findings(Net net, Standing now) {
            super(net);
            this.now = now;
        }

        void begin() {
            for (int i = 0; i < tally.length; i++) {
                tally[i] = 0;
            }
        }

        void note(int digging, int weddings) {
            for (int i = 0; i < now.told; i++) {
                int flow = net.land.water(net.whole[now.toldRiver[i]], now.toldSeason[i]);
                if (flow != now.toldFlow[i]) {
                    return;
                }
            }
            for (int r = 0; r < net.land.rivers; r++) {
                tally[r * SETS + net.whole[r]]++;
                if (ways == 0) {
                    husband[r] = net.husband[r];
                } else if (husband[r] != net.husband[r]) {
                    husband[r] = NOT_SAID;
                }
            }
            ways++;
        }

        void end() {
            bore = NONE;
            int least = ways;
            for (int i = 0; i < net.land.rivers * SEASONS; i++) {
                int most = mostAlike(i / SEASONS, i % SEASONS);
                if (most < least) {
                    least = most;
                    bore = i;
                }
            }
        }

        /** The greatest number of ways by which one and the same flows at a mouth. */
        private int mostAlike(int river, int season) {
            int most = 0;
            for (int set = 0; set <= net.land.all(); set++) {
                if (tally[river * SETS + set] > 0) {
                    most = Math.max(most, alike(river, season, net.land.water(set, season)));
                }
            }
            return most;
        }

        private int alike(int river, int season, int flow) {
            int sum = 0;
            for (int set = 0; set <= net.land.all(); set++) {
                if (net.land.water(set, season) == flow) {
                    sum += tally[river * SETS + set];
                }
            }
            return sum;
        }
    }
}
