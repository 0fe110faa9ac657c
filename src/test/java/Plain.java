import java.util.ArrayList;
import java.util.Arrays;
import java.util.HashMap;
import java.util.List;
import java.util.Map;
import java.util.NoSuchElementException;
import java.util.Set;
import java.util.TreeSet;
import java.util.regex.Matcher;
import java.util.regex.Pattern;

/**
 * The document once more, in other ways than the program's: texts, lists, maps, all tried out. The
 * random runs hold the program against it.
 */
final class Plain {
    static final int NONE = -1;

    static final class Fault extends RuntimeException {
        private static final long serialVersionUID = 1L;
        final int value;

        Fault(int kind, int place) {
            value = kind + 16 * place;
        }
    }

    static final class Stream {
        String name;
        String kind;
        int from;
        int to;
        int place;
        int[] water = new int[4];
        int[] mill;
        int[] town;
        int mother = NONE;
    }

    static final class Country {
        List<Stream> rivers = new ArrayList<>();
        Map<Integer, Integer> ranges = new HashMap<>();
        Integer kin;
        int[] storm;
        Node dowry;
        Node silt;
    }

    interface Node {
        int of(Map<String, Integer> facts);
    }

    record Token(char sort, String text, int place) { }

    record Vow(String deed, int one, int other) { }

    record Told(int river, int season, int flow) { }

    static final class Bonds {
        int[] husband = new int[6];
        int[] owed = new int[6];
        int[] silt = new int[6];
        int passed;

        Bonds() {
            Arrays.fill(husband, NONE);
        }

        Bonds copy() {
            Bonds c = new Bonds();
            c.husband = husband.clone();
            c.owed = owed.clone();
            c.silt = silt.clone();
            c.passed = passed;
            return c;
        }
    }

    record Kept(Bonds bonds, List<Integer> will, List<Told> told) { }

    private static final Set<String> RESERVED = new TreeSet<>(Arrays.asList(("river from to place water mill "
            + "town at of range thick kin storm by dowry silt wed part season heir brook proud clear salt "
            + "not and or").split(" ")));
    private static final List<String> KINDS = List.of("brook", "proud", "clear", "salt");

    private String tape = "";
    private Country land = new Country();
    private Bonds bonds = new Bonds();
    private List<Vow> vows = new ArrayList<>();
    private List<Integer> will = null;
    private List<Told> told = new ArrayList<>();
    private final List<Bonds> past = new ArrayList<>();
    private final Map<Integer, Kept> marks = new HashMap<>();

    // ---- reading

    private List<Token> tokens;
    private int at;

    int feed(long a, long b, long c) {
        for (long x : new long[] {a, b, c}) {
            for (int i = 7; i >= 0; i--) {
                int sign = (int) (x >> 8 * i) & 0xff;
                if ((sign == 10 || sign >= 32 && sign < 127) && tape.length() < 1000) {
                    tape += (char) sign;
                }
            }
        }
        return tape.length();
    }

    private void cut() {
        tokens = new ArrayList<>();
        at = 0;
        Matcher m = Pattern.compile("([a-z]+)|([0-9]+)|([()<=+*;-])|([ \\n]+)|(.)").matcher(tape);
        while (m.find()) {
            if (m.group(1) != null) {
                tokens.add(new Token(m.group().length() > 8 ? '?' : 'w', m.group(), m.start()));
            } else if (m.group(2) != null) {
                tokens.add(new Token(m.group().length() > 4 ? '?' : 'n', m.group(), m.start()));
            } else if (m.group(3) != null) {
                tokens.add(new Token('s', m.group(), m.start()));
            } else if (m.group(5) != null) {
                tokens.add(new Token('?', m.group(), m.start()));
            }
        }
        tokens.add(new Token('e', "", tape.length()));
        tape = "";
    }

    private Token here() {
        return tokens.get(at);
    }

    private boolean is(String text) {
        return (here().sort == 'w' || here().sort == 's') && here().text.equals(text);
    }

    private Fault fault(int kind) {
        return new Fault(kind, here().place);
    }

    private void need(String text) {
        if (!is(text)) {
            throw fault(1);
        }
        at++;
    }

    private int number(int least, int most) {
        if (here().sort != 'n') {
            throw fault(1);
        }
        int value = Integer.parseInt(here().text);
        if (value < least || value > most) {
            throw fault(4);
        }
        at++;
        return value;
    }

    private String name() {
        if (here().sort != 'w' || RESERVED.contains(here().text)) {
            throw fault(1);
        }
        return here().text;
    }

    private int named(Country of) {
        String name = name();
        for (int i = 0; i < of.rivers.size(); i++) {
            if (of.rivers.get(i).name.equals(name)) {
                return i;
            }
        }
        throw fault(2);
    }

    int land() {
        cut();
        Country draft = new Country();
        try {
            while (here().sort != 'e') {
                landLine(draft);
                need(";");
            }
        } catch (Fault f) {
            return f.value;
        }
        land = draft;
        bonds = new Bonds();
        vows = new ArrayList<>();
        will = null;
        told = new ArrayList<>();
        past.clear();
        marks.clear();
        return 0;
    }

    private void landLine(Country c) {
        if (is("river")) {
            if (c.rivers.size() == 6) {
                throw fault(5);
            }
            at++;
            c.rivers.add(stream(c));
        } else if (is("range")) {
            if (c.ranges.size() == 4) {
                throw fault(5);
            }
            at++;
            int place = number(0, 99);
            if (c.ranges.containsKey(place)) {
                at--;
                throw fault(3);
            }
            need("thick");
            c.ranges.put(place, number(1, 99));
        } else if (is("kin")) {
            if (c.kin != null) {
                throw fault(3);
            }
            at++;
            c.kin = number(0, 9);
        } else if (is("storm")) {
            if (c.storm != null) {
                throw fault(3);
            }
            at++;
            int chance = number(0, 10);
            need("by");
            c.storm = new int[] {chance, number(0, 99)};
        } else if (is("dowry")) {
            if (c.dowry != null) {
                throw fault(3);
            }
            at++;
            c.dowry = expression(0, Set.of("flow", "fall", "near", "dig"));
        } else if (is("silt")) {
            if (c.silt != null) {
                throw fault(3);
            }
            at++;
            c.silt = expression(0, Set.of("flow", "fall"));
        } else {
            throw fault(1);
        }
    }

    private Stream stream(Country c) {
        Stream s = new Stream();
        s.name = name();
        for (Stream other : c.rivers) {
            if (other.name.equals(s.name)) {
                throw fault(3);
            }
        }
        at++;
        if (here().sort != 'w' || !KINDS.contains(here().text)) {
            throw fault(1);
        }
        s.kind = here().text;
        at++;
        need("from");
        s.from = number(1, 99);
        need("to");
        s.to = number(0, s.from - 1);
        need("place");
        s.place = number(0, 99);
        need("water");
        for (int i = 0; i < 4; i++) {
            s.water[i] = number(0, 99);
        }
        if (is("mill")) {
            at++;
            int wants = number(1, 999);
            need("at");
            s.mill = new int[] {wants, number(s.to, s.from)};
        }
        if (is("town")) {
            at++;
            int holds = number(0, 999);
            need("at");
            s.town = new int[] {holds, number(s.to, s.from)};
        }
        if (is("of")) {
            at++;
            s.mother = named(c);
            at++;
        }
        return s;
    }

    private Node expression(int within, Set<String> facts) {
        Node left = test(within, facts);
        while (is("and") || is("or")) {
            boolean and = is("and");
            at++;
            Node l = left;
            Node r = test(within, facts);
            left = f -> {
                boolean a = l.of(f) != 0;
                boolean b = r.of(f) != 0;
                return (and ? a && b : a || b) ? 1 : 0;
            };
        }
        return left;
    }

    private Node test(int within, Set<String> facts) {
        Node l = sum(within, facts);
        if (is("<")) {
            at++;
            Node r = sum(within, facts);
            return f -> l.of(f) < r.of(f) ? 1 : 0;
        }
        if (is("=")) {
            at++;
            Node r = sum(within, facts);
            return f -> l.of(f) == r.of(f) ? 1 : 0;
        }
        return l;
    }

    private Node sum(int within, Set<String> facts) {
        Node left = product(within, facts);
        while (is("+") || is("-")) {
            int sign = is("+") ? 1 : -1;
            at++;
            Node l = left;
            Node r = product(within, facts);
            left = f -> l.of(f) + sign * r.of(f);
        }
        return left;
    }

    private Node product(int within, Set<String> facts) {
        Node left = atom(within, facts);
        while (is("*")) {
            at++;
            Node l = left;
            Node r = atom(within, facts);
            left = f -> l.of(f) * r.of(f);
        }
        return left;
    }

    private Node atom(int within, Set<String> facts) {
        Token t = here();
        boolean fact = t.sort == 'w' && facts.contains(t.text);
        if (t.sort != 'n' && !fact && !is("not") && !is("(")) {
            throw fault(1);
        }
        if (within == 5) {
            throw fault(5);
        }
        at++;
        if (t.sort == 'n') {
            int value = Integer.parseInt(t.text);
            return f -> value;
        }
        if (fact) {
            return f -> f.get(t.text);
        }
        if (t.text.equals("not")) {
            Node inner = atom(within + 1, facts);
            return f -> inner.of(f) == 0 ? 1 : 0;
        }
        Node inner = expression(within + 1, facts);
        need(")");
        return inner;
    }

    int vows() {
        cut();
        List<Vow> read = new ArrayList<>();
        try {
            while (here().sort != 'e') {
                if (!is("wed") && !is("part") && !is("season")) {
                    throw fault(1);
                }
                if (read.size() == 24) {
                    throw fault(5);
                }
                read.add(vow());
                need(";");
            }
        } catch (Fault f) {
            return f.value;
        }
        vows = read;
        return 0;
    }

    private Vow vow() {
        String deed = here().text;
        at++;
        int one = NONE;
        int other = NONE;
        if (!deed.equals("season")) {
            one = named(land);
            at++;
        }
        if (deed.equals("wed")) {
            other = named(land);
            if (other == one) {
                throw fault(3);
            }
            at++;
        }
        return new Vow(deed, one, other);
    }

    int will() {
        cut();
        List<Integer> read = new ArrayList<>();
        try {
            while (here().sort != 'e') {
                if (!is("heir")) {
                    throw fault(1);
                }
                if (read.size() == 6) {
                    throw fault(5);
                }
                at++;
                read.add(number(0, 99));
                need(";");
            }
        } catch (Fault f) {
            return f.value;
        }
        will = read;
        return 0;
    }

    // ---- rules

    private int n() {
        return land.rivers.size();
    }

    private boolean ok(int river) {
        return river >= 0 && river < n();
    }

    private boolean okSeason(int season) {
        return season >= 0 && season <= 3;
    }

    private Stream s(int river) {
        return land.rivers.get(river);
    }

    private int kin() {
        return land.kin == null ? 0 : land.kin;
    }

    private int steps(int one, int other) {
        int[] far = new int[n()];
        Arrays.fill(far, 99);
        far[one] = 0;
        for (int round = 0; round < n(); round++) {
            for (int child = 0; child < n(); child++) {
                int mother = s(child).mother;
                if (mother != NONE) {
                    far[mother] = Math.min(far[mother], far[child] + 1);
                    far[child] = Math.min(far[child], far[mother] + 1);
                }
            }
        }
        return Math.min(99, far[other]);
    }

    private int thick(int one, int other) {
        int sum = 0;
        for (Map.Entry<Integer, Integer> e : land.ranges.entrySet()) {
            int a = Integer.compare(s(one).place, e.getKey());
            int b = Integer.compare(s(other).place, e.getKey());
            if (a * b < 0) {
                sum += e.getValue();
            }
        }
        return sum;
    }

    private int digging(int one, int other) {
        return Math.abs(s(one).place - s(other).place) + thick(one, other);
    }

    private boolean mayWed(int[] husband, int wife, int man) {
        if (wife == man || s(wife).kind.equals("salt") || s(man).kind.equals("salt")) {
            return false;
        }
        if (husband[wife] != NONE || s(wife).to < s(man).to || s(man).from <= s(wife).to) {
            return false;
        }
        if (steps(wife, man) <= kin()) {
            return false;
        }
        for (int x = man; x != NONE; x = husband[x]) {
            if (x == wife) {
                return false;
            }
        }
        if (s(man).kind.equals("proud")) {
            for (int x = 0; x < n(); x++) {
                if (husband[x] == man) {
                    return false;
                }
            }
        }
        return true;
    }

    /** Whose water is there, each river as often as it comes. */
    private List<Integer> waters(int[] husband, int river, int height) {
        List<Integer> all = new ArrayList<>();
        all.add(river);
        if (s(river).kind.equals("clear") && height > s(river).to) {
            return all;
        }
        for (int wife = 0; wife < n(); wife++) {
            if (husband[wife] == river && s(wife).to >= height) {
                all.addAll(waters(husband, wife, s(wife).to));
            }
        }
        return all;
    }

    private int flowOf(int[] husband, int river, int height, int season, int by) {
        int sum = 0;
        for (int w : waters(husband, river, height)) {
            sum += s(w).water[season] / by;
        }
        return sum;
    }

    private int mouth(int[] husband, int river, int season) {
        return flowOf(husband, river, s(river).to, season, 1);
    }

    private int dry(int[] husband, int season, int by) {
        int bits = 0;
        for (int r = 0; r < n(); r++) {
            if (s(r).mill != null && s(r).mill[0] > flowOf(husband, r, s(r).mill[1], season, by)) {
                bits += 1 << r;
            }
        }
        return bits;
    }

    private int flooded(int[] husband, int season, int by) {
        int bits = 0;
        for (int r = 0; r < n(); r++) {
            if (s(r).town != null && s(r).town[0] < flowOf(husband, r, s(r).town[1], season, by)) {
                bits += 1 << r;
            }
        }
        return bits;
    }

    private int season() {
        return bonds.passed % 4;
    }

    private static int weddings(int[] husband) {
        int many = 0;
        for (int h : husband) {
            many += h == NONE ? 0 : 1;
        }
        return many;
    }

    private static int[] nobody() {
        int[] none = new int[6];
        Arrays.fill(none, NONE);
        return none;
    }

    // ---- answers

    int river(int river, int what) {
        if (!ok(river) || what < 0 || what > 8) {
            throw new NoSuchElementException();
        }
        Stream it = s(river);
        int wives = 0;
        for (int r = 0; r < n(); r++) {
            wives += bonds.husband[r] == river ? 1 << r : 0;
        }
        return new int[] {KINDS.indexOf(it.kind), it.from, it.to, it.place, it.mother, bonds.husband[river],
            wives, bonds.silt[river], bonds.owed[river]}[what];
    }

    int flow(int river, int height, int season) {
        if (!ok(river) || !okSeason(season) || height < 0 || height > 99
                || height > s(river).from || height < s(river).to) {
            return NONE;
        }
        return flowOf(bonds.husband, river, height, season, 1);
    }

    int needs(int what) {
        return what == 0 ? dry(bonds.husband, season(), 1)
                : what == 1 ? flooded(bonds.husband, season(), 1) : NONE;
    }

    int near(int one, int other) {
        return ok(one) && ok(other) ? steps(one, other) : NONE;
    }

    int dig(int one, int other) {
        return ok(one) && ok(other) && one != other ? digging(one, other) : NONE;
    }

    int may(int river) {
        if (!ok(river)) {
            return NONE;
        }
        int bits = 0;
        for (int man = 0; man < n(); man++) {
            bits += mayWed(bonds.husband, river, man) ? 1 << man : 0;
        }
        return bits;
    }

    int ends() {
        int bits = 0;
        for (int r = 0; r < n(); r++) {
            boolean any = false;
            for (int o = 0; o < n(); o++) {
                any |= mayWed(nobody(), r, o) || mayWed(nobody(), o, r);
            }
            bits += any ? 0 : 1 << r;
        }
        return bits;
    }

    private void push() {
        past.add(bonds.copy());
        if (past.size() > 16) {
            past.remove(0);
        }
    }

    private static int held(int value) {
        return value < 0 ? 0 : value > 99 ? 99 : value;
    }

    int wed(int wife, int husband) {
        if (!ok(wife) || !ok(husband) || !mayWed(bonds.husband, wife, husband)) {
            return NONE;
        }
        push();
        int dowry = 1;
        if (land.dowry != null) {
            dowry = held(land.dowry.of(Map.of("flow", mouth(bonds.husband, wife, season()), "fall",
                    s(wife).from - s(wife).to, "near", steps(wife, husband), "dig", digging(wife, husband))));
        }
        bonds.husband[wife] = husband;
        bonds.owed[wife] -= dowry;
        bonds.owed[husband] += dowry;
        return dowry;
    }

    boolean part(int wife) {
        if (!ok(wife) || bonds.husband[wife] == NONE) {
            return false;
        }
        push();
        bonds.husband[wife] = NONE;
        return true;
    }

    int seasons(int many) {
        if (many < 1 || many > 100) {
            return NONE;
        }
        for (int i = 0; i < many; i++) {
            push();
            for (int r = 0; r < n() && land.silt != null; r++) {
                bonds.silt[r] += held(land.silt.of(Map.of("flow", mouth(bonds.husband, r, season()), "fall",
                        s(r).from - s(r).to)));
            }
            bonds.passed++;
        }
        return bonds.passed;
    }

    boolean undo() {
        if (past.isEmpty()) {
            return false;
        }
        bonds = past.remove(past.size() - 1);
        return true;
    }

    int judged(int what) {
        int[] husband = nobody();
        int season = 0;
        int bad = NONE;
        int need = NONE;
        for (int i = 0; i < vows.size(); i++) {
            Vow v = vows.get(i);
            boolean can = switch (v.deed) {
                case "wed" -> mayWed(husband, v.one, v.other);
                case "part" -> husband[v.one] != NONE;
                default -> true;
            };
            if (!can) {
                bad = bad == NONE ? i : bad;
                continue;
            }
            switch (v.deed) {
                case "wed" -> husband[v.one] = v.other;
                case "part" -> husband[v.one] = NONE;
                default -> season = (season + 1) % 4;
            }
            if (need == NONE && (dry(husband, season, 1) | flooded(husband, season, 1)) != 0) {
                need = i;
            }
        }
        return what == 0 ? bad : what == 1 ? need : what == 2 ? weddings(husband) : -2;
    }

    int worn(int one, int other) {
        if (!ok(one) || !ok(other) || one == other) {
            return NONE;
        }
        int left = thick(one, other);
        int season = season();
        for (int i = 0; i <= 400; i++) {
            if (left <= 0) {
                return i;
            }
            left -= (s(one).water[season] + s(other).water[season]) / 10;
            season = (season + 1) % 4;
        }
        return NONE;
    }

    int love(int river) {
        int best = NONE;
        for (int o = 0; ok(river) && o < n(); o++) {
            if (o != river && thick(o, river) > 0 && worn(o, river) != NONE
                    && (best == NONE || worn(o, river) < worn(best, river))) {
                best = o;
            }
        }
        return best;
    }

    int hyphen(int river) {
        if (!ok(river)) {
            return NONE;
        }
        List<String> names = new ArrayList<>();
        for (int w : waters(bonds.husband, river, s(river).to)) {
            names.add(s(w).name);
        }
        return String.join("-", names).length();
    }

    private List<int[]> ways() {
        List<int[]> ways = new ArrayList<>();
        ways.add(nobody());
        for (int wife = 0; wife < n(); wife++) {
            List<int[]> more = new ArrayList<>();
            for (int[] way : ways) {
                more.add(way);
                for (int man = 0; man < n(); man++) {
                    if (mayWed(way, wife, man)) {
                        int[] with = way.clone();
                        with[wife] = man;
                        more.add(with);
                    }
                }
            }
            ways = more;
        }
        ways.sort(Arrays::compare);
        return ways;
    }

    private int digging(int[] husband) {
        int sum = 0;
        for (int r = 0; r < n(); r++) {
            sum += husband[r] == NONE ? 0 : digging(r, husband[r]);
        }
        return sum;
    }

    private static boolean ahead(int[] a, int[] b) {
        return Arrays.compare(a, b) < 0;
    }

    int match(int what) {
        int many = 0;
        int[] best = null;
        for (int[] way : ways()) {
            boolean good = true;
            for (int season = 0; season < 4; season++) {
                good &= dry(way, season, 1) == 0 && flooded(way, season, 1) == 0;
            }
            if (good) {
                many++;
                if (best == null || ahead(new int[] {digging(way), weddings(way)},
                        new int[] {digging(best), weddings(best)})) {
                    best = way;
                }
            }
        }
        if (best == null || what < 0 || what >= 3 + n()) {
            return -2;
        }
        return what == 0 ? digging(best) : what == 1 ? weddings(best) : what == 2 ? many : best[what - 3];
    }

    private void chains(List<Integer> row, int[] husband, int to, List<List<Integer>> all) {
        int last = row.get(row.size() - 1);
        if (last == to) {
            all.add(new ArrayList<>(row));
            return;
        }
        for (int man = 0; man < n(); man++) {
            if (mayWed(husband, last, man)) {
                int[] with = husband.clone();
                with[last] = man;
                row.add(man);
                chains(row, with, to, all);
                row.remove(row.size() - 1);
            }
        }
    }

    private int dug(List<Integer> row) {
        int sum = 0;
        for (int i = 1; i < row.size(); i++) {
            sum += digging(row.get(i - 1), row.get(i));
        }
        return sum;
    }

    int chain(int from, int to, int what) {
        if (!ok(from) || !ok(to) || from == to || what < 0) {
            return NONE;
        }
        List<List<Integer>> all = new ArrayList<>();
        chains(new ArrayList<>(List.of(from)), nobody(), to, all);
        int[] bestKey = null;
        List<Integer> best = null;
        for (List<Integer> row : all) {
            int[] key = new int[8];
            key[0] = dug(row);
            key[1] = row.size() - 1;
            for (int i = 0; i < row.size(); i++) {
                key[2 + i] = row.get(i);
            }
            if (best == null || ahead(key, bestKey)) {
                best = row;
                bestKey = key;
            }
        }
        if (best == null || what - 2 >= best.size()) {
            return NONE;
        }
        return what < 2 ? bestKey[what] : best.get(what - 2);
    }

    int peace() {
        int best = NONE;
        for (int set = 63; set >= 0; set--) {
            int[] husband = bonds.husband.clone();
            boolean can = true;
            for (int r = 0; r < 6; r++) {
                if ((set >> r & 1) != 0) {
                    can &= husband[r] != NONE;
                    husband[r] = NONE;
                }
            }
            if (can && dry(husband, season(), 1) == 0 && flooded(husband, season(), 1) == 0
                    && (best == NONE || Integer.bitCount(set) <= Integer.bitCount(best))) {
                best = set;
            }
        }
        return best;
    }

    int cathedral(int season) {
        int best = NONE;
        int most = NONE;
        for (int w = 0; okSeason(season) && w < n(); w++) {
            if (bonds.husband[w] != NONE) {
                int there = flowOf(bonds.husband, bonds.husband[w], s(w).to, season, 1);
                if (there > most) {
                    most = there;
                    best = w;
                }
            }
        }
        return best;
    }

    int eddies() {
        int pairs = 0;
        for (int a = 0; a < n(); a++) {
            for (int b = 0; b < a; b++) {
                if (bonds.husband[a] != NONE && bonds.husband[a] == bonds.husband[b] && s(a).to == s(b).to) {
                    pairs++;
                }
            }
        }
        return pairs;
    }

    private int chance() {
        return land.storm == null ? 0 : land.storm[0];
    }

    private int more() {
        return land.storm == null ? 0 : land.storm[1];
    }

    private boolean town(int river) {
        return ok(river) && s(river).town != null;
    }

    int worst(int river, int what) {
        if (!town(river) || what < 0 || what > 1) {
            throw new NoSuchElementException();
        }
        int season = 0;
        int most = NONE;
        for (int t = 0; t < 4; t++) {
            int sum = 0;
            for (int w : waters(bonds.husband, river, s(river).town[1])) {
                sum += s(w).water[t] + (chance() > 0 ? more() : 0);
            }
            if (sum > most) {
                most = sum;
                season = t;
            }
        }
        return what == 0 ? season : most - s(river).town[0];
    }

    int share(int river, int season, int heir) {
        if (!ok(river) || !okSeason(season) || will == null || heir < 0 || heir >= will.size()) {
            return NONE;
        }
        int flow = mouth(bonds.husband, river, season);
        int all = will.stream().mapToInt(x -> x).sum();
        if (all == 0) {
            return 0;
        }
        int[] shares = new int[will.size()];
        int[] rests = new int[will.size()];
        int left = flow;
        for (int i = 0; i < shares.length; i++) {
            shares[i] = flow * will.get(i) / all;
            rests[i] = flow * will.get(i) % all;
            left -= shares[i];
        }
        while (left > 0) {
            int best = 0;
            for (int i = 1; i < shares.length; i++) {
                if (rests[i] > rests[best]) {
                    best = i;
                }
            }
            shares[best]++;
            rests[best] = -1;
            left--;
        }
        return shares[heir];
    }

    /** Each sort of weather for itself. */
    private long overflow(int river, int season, int holds) {
        List<Integer> waters = waters(bonds.husband, river, s(river).town[1]);
        long sum = 0;
        for (int set = 0; set < 1 << waters.size(); set++) {
            long chance = 1000000000000L;
            int flow = 0;
            for (int i = 0; i < waters.size(); i++) {
                boolean struck = (set >> i & 1) != 0;
                chance = chance / 10 * (struck ? chance() : 10 - chance());
                flow += s(waters.get(i)).water[season] + (struck ? more() : 0);
            }
            sum += flow > holds ? chance : 0;
        }
        return sum / 1000000;
    }

    int storms(int river, int season) {
        return town(river) && okSeason(season) ? (int) overflow(river, season, s(river).town[0]) : NONE;
    }

    int walls(int river, int season, int millionths) {
        if (!town(river) || !okSeason(season) || millionths < 0 || millionths > 1000000) {
            return NONE;
        }
        for (int holds = 0; holds <= 9999; holds++) {
            if (overflow(river, season, holds) <= millionths) {
                return holds;
            }
        }
        return NONE;
    }

    boolean tell(int river, int season, int flow) {
        if (!ok(river) || !okSeason(season) || flow < 0 || flow > 9999 || told.size() == 10) {
            return false;
        }
        told.add(new Told(river, season, flow));
        return true;
    }

    int found(int what) {
        List<int[]> ways = ways();
        ways.removeIf(way -> told.stream().anyMatch(t -> mouth(way, t.river, t.season) != t.flow));
        if (what == 0) {
            return ways.size();
        }
        if (what < 0 || what >= 2 + n() || ways.isEmpty()) {
            return -3;
        }
        if (what > 1) {
            int husband = ways.get(0)[what - 2];
            return ways.stream().allMatch(way -> way[what - 2] == husband) ? husband : -2;
        }
        int best = NONE;
        int least = ways.size();
        for (int bore = 0; bore < 4 * n(); bore++) {
            Map<Integer, Integer> groups = new HashMap<>();
            int most = 0;
            for (int[] way : ways) {
                most = Math.max(most, groups.merge(mouth(way, bore / 4, bore % 4), 1, Integer::sum));
            }
            if (most < least) {
                least = most;
                best = bore;
            }
        }
        return best;
    }

    int rests(int wife, int one, int other, int what) {
        if (!ok(wife) || !ok(one) || !ok(other) || one == other || what < -1
                || !mayWed(bonds.husband, wife, one) || !mayWed(bonds.husband, wife, other)) {
            return NONE;
        }
        int worth = mouth(bonds.husband, wife, season()) / 5;
        int[][][] has = new int[10][10][2];
        for (int a = 0; a < 10; a++) {
            for (int b = 0; b < 10; b++) {
                has[a][b][a >= b ? 0 : 1] = worth - (a >= b ? a : b);
            }
        }
        List<Integer> rests = new ArrayList<>();
        for (int a = 0; a < 10; a++) {
            for (int b = 0; b < 10; b++) {
                boolean rest = true;
                for (int x = 0; x < 10; x++) {
                    rest &= has[x][b][0] <= has[a][b][0] && has[a][x][1] <= has[a][b][1];
                }
                if (rest) {
                    rests.add(10 * a + b);
                }
            }
        }
        return what == NONE ? rests.size() : what < rests.size() ? rests.get(what) : NONE;
    }

    int dams(int first, int second, int what) {
        if (!ok(first) || !ok(second) || first == second || what < 0 || what > 1) {
            return NONE;
        }
        boolean[][] wins = new boolean[21][21];
        int[][] take = new int[21][21];
        for (int a = 0; a <= 20; a++) {
            for (int b = 0; b <= 20; b++) {
                take[a][b] = NONE;
                for (int t = 6; t >= 1; t--) {
                    int a2 = t <= 3 ? a - t : a;
                    int b2 = t <= 3 ? b : b - t + 3;
                    if (a2 >= 0 && b2 >= 0 && !wins[a2][b2]) {
                        wins[a][b] = true;
                        take[a][b] = t;
                    }
                }
            }
        }
        int a = Math.min(20, s(first).water[season()]);
        int b = Math.min(20, s(second).water[season()]);
        return what == 1 ? take[a][b] : wins[a][b] ? 1 : 0;
    }

    private long g;

    private int draw(int below) {
        g = (g * 1103515245L + 12345) & 0x7fffffffL;
        return (int) ((g >> 16) % below);
    }

    int centuries(int seed, int seasons, int what) {
        if (seed < 0 || seed > 9999 || seasons < 1 || seasons > 100 || what < 0 || what > 2 || n() == 0) {
            return NONE;
        }
        g = seed;
        int[] husband = bonds.husband.clone();
        int season = season();
        int[] sums = new int[3];
        for (int i = 0; i < seasons; i++) {
            int fate = draw(10);
            int by = fate == 0 ? 2 : 1;
            if (fate == 1) {
                int wife = draw(n());
                int man = draw(n());
                if (mayWed(husband, wife, man)) {
                    husband[wife] = man;
                }
            }
            if (fate == 2) {
                husband[draw(n())] = NONE;
            }
            sums[0] += Integer.bitCount(dry(husband, season, by));
            sums[1] += Integer.bitCount(flooded(husband, season, by));
            season = (season + 1) % 4;
        }
        sums[2] = weddings(husband);
        return sums[what];
    }

    boolean mark(int mark, boolean back) {
        if (mark < 0 || mark > 3 || back && !marks.containsKey(mark)) {
            return false;
        }
        if (back) {
            Kept kept = marks.get(mark);
            bonds = kept.bonds.copy();
            will = kept.will == null ? null : new ArrayList<>(kept.will);
            told = new ArrayList<>(kept.told);
            past.clear();
        } else {
            marks.put(mark, new Kept(bonds.copy(), will == null ? null : new ArrayList<>(will),
                    new ArrayList<>(told)));
        }
        return true;
    }

    int count(int what) {
        return switch (what) {
            case 0 -> n();
            case 1 -> land.ranges.size();
            case 2 -> bonds.passed;
            case 3 -> weddings(bonds.husband);
            case 4 -> vows.size();
            case 5 -> will == null ? NONE : will.size();
            case 6 -> told.size();
            case 7 -> kin();
            case 8 -> past.size();
            case 9 -> tape.length();
            default -> NONE;
        };
    }
}
