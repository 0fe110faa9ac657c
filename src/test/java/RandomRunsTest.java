import java.util.NoSuchElementException;
import java.util.Random;

/** Holds the program against the plain model over runs of calls by draws. */
final class RandomRunsTest {
    private static final int RUNS = 1200;
    private static final int CALLS = 160;
    private static final String[] WORDS = ("river from to place water mill town at of range thick kin storm by "
            + "dowry silt wed part season heir brook proud clear salt not and or flow fall near dig a b c dd "
            + "toolongword eightsig ( ) < = + - * ; 0 1 5 9 10 11 50 99 100 999 1000 9999 10000 ! A . ~").split(" ");
    private static final String[] NAMES = "a bb c flow near dd eeeeeeee f gh".split(" ");
    private static final String[] KINDS = "brook brook brook brook proud proud clear clear brook salt".split(" ");

    private static int wrong = 0;
    private static long calls = 0;

    private final Random random;
    private final int run;
    private final RiverVows is = new RiverVows();
    private final Plain due = new Plain();
    private final StringBuilder story = new StringBuilder();
    private int firstName;
    private boolean easy;
    private boolean coarse;

    private RandomRunsTest(int run) {
        this.run = run;
        random = new Random(7919L * run + 13);
    }

    public static void main(String[] args) {
        int runs = args.length > 0 ? Integer.parseInt(args[0]) : RUNS;
        int first = args.length > 1 ? Integer.parseInt(args[1]) : 0;
        for (int run = first; run < first + runs && wrong < 10; run++) {
            new RandomRunsTest(run).go();
        }
        System.out.println(calls + " calls held against the plain model, " + wrong + " wrong");
        System.exit(wrong == 0 ? 0 : 1);
    }

    private int below(int bound) {
        return random.nextInt(bound);
    }

    private int between(int least, int most) {
        return least + below(most - least + 1);
    }

    private boolean oneIn(int bound) {
        return below(bound) == 0;
    }

    private boolean same(String call, long got, long want) {
        calls++;
        story.append(call).append(" -> ").append(want).append('\n');
        if (got != want) {
            wrong++;
            System.out.println("run " + run + ": " + call + " answered " + got + ", due is " + want);
            System.out.println(story);
        }
        return got == want;
    }

    private void go() {
        int before = wrong;
        for (int i = 0; i < CALLS && wrong == before; i++) {
            step(i);
        }
    }

    private void step(int i) {
        int sort = i == 0 ? 0 : between(1, 40);
        if (sort == 0 || oneIn(80)) {
            for (int tries = 0; tries < 4 && (tries == 0 || due.count(0) == 0); tries++) {
                tell(landText());
                same("land()", is.land(), due.land());
            }
        } else if (sort == 1) {
            tell(vowsText());
            same("vows()", is.vows(), due.vows());
        } else if (sort == 2) {
            tell(willText());
            same("will()", is.will(), due.will());
        } else if (sort == 3 && oneIn(3)) {
            tell(nonsense());
            same("land()", is.land(), due.land());
        } else if (sort < 16) {
            deed();
        } else {
            question(below(26));
        }
    }

    private void tell(String text) {
        story.append("tape: ").append(text).append('\n');
        byte[] bytes = text.getBytes(java.nio.charset.StandardCharsets.ISO_8859_1);
        for (int at = 0; at < bytes.length; at += 24) {
            long[] three = new long[3];
            for (int i = 0; i < 24; i++) {
                three[i / 8] = three[i / 8] << 8 | (at + i < bytes.length ? bytes[at + i] & 255 : 0);
            }
            same("feed(..)", is.feed(three[0], three[1], three[2]), due.feed(three[0], three[1], three[2]));
        }
    }

    // ---- texts

    private String spoiled(String text) {
        if (!oneIn(4)) {
            return text;
        }
        String[] parts = text.split(" ");
        int times = 1 + below(2);
        for (int i = 0; i < times; i++) {
            int at = below(parts.length);
            switch (below(6)) {
                case 3, 4, 5 -> parts[at] = spoiledPart(parts[at]);
                case 0 -> parts[at] = WORDS[below(WORDS.length)];
                case 1 -> parts[at] = "";
                default -> parts[at] = parts[at] + " " + WORDS[below(WORDS.length)];
            }
        }
        String joined = String.join(" ", parts);
        return oneIn(6) ? joined.substring(0, below(joined.length() + 1)) : joined;
    }

    /** A number for a number, a name for a name. */
    private String spoiledPart(String part) {
        if (part.matches("[0-9]+")) {
            int[] edges = {0, 1, 9, 10, 11, 98, 99, 100, 999, 1000, 9999};
            return String.valueOf(edges[below(edges.length)]);
        }
        return part.matches("[a-z]{1,3}") ? NAMES[below(NAMES.length)] : part;
    }

    private String landText() {
        StringBuilder text = new StringBuilder();
        int rivers = oneIn(12) ? below(8) : between(2, 6);
        boolean level = oneIn(2);
        int wet = oneIn(3) ? 99 : 25;
        firstName = oneIn(3) ? 1 : 0;
        easy = oneIn(2);
        coarse = oneIn(2);
        for (int i = 0; i < rivers; i++) {
            text.append(riverText(i, level, wet));
            if (oneIn(3)) {
                text.append(rangeText());
            }
        }
        if (oneIn(2)) {
            text.append(rangeText());
        }
        if (oneIn(2)) {
            text.append("kin ").append(below(oneIn(3) ? 10 : 3)).append(" ; ");
        }
        if (!oneIn(4)) {
            text.append("storm ").append(below(11)).append(" by ").append(below(oneIn(2) ? 100 : 20)).append(" ; ");
        }
        if (!oneIn(3)) {
            text.append("dowry ").append(expression(0, true)).append(" ; ");
        }
        if (!oneIn(3)) {
            text.append("silt ").append(expression(0, false)).append(" ; ");
        }
        return spoiled(text.toString());
    }

    private String riverText(int number, boolean level, int wet) {
        int from = level ? between(40, 99) : between(1, 99);
        int to = level ? 10 + 5 * below(2) : below(from);
        StringBuilder text = new StringBuilder();
        text.append("river ").append(NAMES[number + firstName]).append(' ').append(KINDS[below(KINDS.length)]);
        text.append(" from ").append(from).append(" to ").append(to).append(" place ").append(anyPlace());
        text.append(" water");
        for (int s = 0; s < 4; s++) {
            text.append(' ').append(below(wet + 1));
        }
        if (oneIn(easy ? 6 : 3)) {
            int at = oneIn(2) ? to : between(to, from);
            text.append(" mill ").append(between(1, oneIn(2) ? 12 : 80)).append(" at ").append(at);
        }
        if (oneIn(easy ? 4 : 2)) {
            int at = oneIn(2) ? to : between(to, from);
            text.append(" town ").append(below(oneIn(3) ? 40 : 3 * wet)).append(" at ").append(at);
        }
        if (number > 0 && oneIn(3)) {
            text.append(" of ").append(NAMES[below(number) + firstName]);
        }
        return text.append(oneIn(5) ? "\n;\n" : " ; ").toString();
    }

    /** Places of a coarse country often lie right at a range. */
    private int anyPlace() {
        return coarse ? 20 * below(5) : below(100);
    }

    private String rangeText() {
        return "range " + anyPlace() + " thick " + between(1, oneIn(3) ? 99 : 20) + " ; ";
    }

    private String expression(int depth, boolean dowry) {
        int parts = 1 + below(3);
        StringBuilder text = new StringBuilder(piece(depth, dowry));
        boolean compared = false;
        for (int i = 1; i < parts; i++) {
            String[] signs = {"+", "-", "*", "+", "-", "and", "or", "<", "="};
            String sign = signs[below(compared && !oneIn(20) ? 7 : signs.length)];
            compared = sign.matches("[<=]") || compared && !sign.matches("and|or");
            text.append(' ').append(sign).append(' ').append(piece(depth, dowry));
        }
        return text.toString();
    }

    private String piece(int depth, boolean dowry) {
        switch (below(depth > (oneIn(8) ? 5 : 4) ? 4 : 6)) {
            case 0:
                return "flow";
            case 1:
                return "fall";
            case 2:
                return String.valueOf(oneIn(4) ? below(10000) : below(12));
            case 3:
                return oneIn(2) && dowry || oneIn(20) ? "near" : dowry ? "dig" : "flow";
            case 4:
                return "not " + piece(depth + 1, dowry);
            default:
                return "( " + expression(depth + 1, dowry) + " )";
        }
    }

    private String vowsText() {
        StringBuilder text = new StringBuilder();
        int lines = oneIn(8) ? between(23, 26) : below(12);
        for (int i = 0; i < lines; i++) {
            String one = anyName();
            String other = anyName();
            switch (below(5)) {
                case 0 -> text.append("season ; ");
                case 1 -> text.append("part ").append(one).append(" ; ");
                default -> {
                    if (!one.equals(other) || oneIn(20)) {
                        text.append("wed ").append(one).append(' ').append(other).append(" ; ");
                    }
                }
            }
        }
        return spoiled(text.toString());
    }

    private String anyName() {
        return NAMES[oneIn(40) ? below(8) : firstName + below(Math.max(1, due.count(0)))];
    }

    private String willText() {
        StringBuilder text = new StringBuilder();
        int heirs = below(oneIn(10) ? 9 : 6);
        for (int i = 0; i < heirs; i++) {
            text.append("heir ").append(oneIn(3) ? below(3) : below(100)).append(" ; ");
        }
        return spoiled(text.toString());
    }

    private String nonsense() {
        StringBuilder text = new StringBuilder();
        int words = below(30);
        for (int i = 0; i < words; i++) {
            text.append(WORDS[below(WORDS.length)]).append(oneIn(4) ? "" : " ");
        }
        if (oneIn(5)) {
            text.append("kin 1 ; ".repeat(below(140)));
        }
        return text.toString();
    }

    // ---- calls

    private int anyRiver() {
        return oneIn(12) ? anything(-2, 7) : below(Math.max(1, due.count(0)));
    }

    private int anySeason() {
        return oneIn(12) ? anything(-1, 4) : below(4);
    }

    private int anyWhat(int most) {
        return oneIn(12) ? anything(-3, most + 2) : below(most + 1);
    }

    /** Mostly what lies right beside the bounds, else any number there is. */
    private int anything(int least, int most) {
        int[] wild = {Integer.MIN_VALUE, Integer.MAX_VALUE, random.nextInt()};
        return oneIn(4) ? wild[below(3)] : between(least, most);
    }

    private void deed() {
        int r = anyRiver();
        int o = anyRiver();
        int s = anySeason();
        boolean back = oneIn(2);
        switch (below(10)) {
            case 0 -> same("wed(" + r + ", " + o + ")", is.wed(r, o), due.wed(r, o));
            case 1, 2, 3, 4 -> {
                int man = oneOf(due.may(r));
                same("wed(" + r + ", " + man + ")", is.wed(r, man), due.wed(r, man));
            }
            case 5 -> same("part(" + r + ")", is.part(r) ? 1 : 0, due.part(r) ? 1 : 0);
            case 6 -> {
                int many = oneIn(4) ? anything(-1, 102) : between(1, 6);
                same("seasons(" + many + ")", is.seasons(many), due.seasons(many));
            }
            case 7 -> same("undo()", is.undo() ? 1 : 0, due.undo() ? 1 : 0);
            case 8 -> {
                int m = oneIn(8) ? anything(-1, 5) : below(4);
                same("mark(" + m + ", " + back + ")", is.mark(m, back) ? 1 : 0, due.mark(m, back) ? 1 : 0);
            }
            default -> {
                int told = oneIn(8) ? anything(-1, 10001) : Math.max(0, due.flow(r, safe(r, 2), s));
                same("tell(" + r + ", " + s + ", " + told + ")", is.tell(r, s, told) ? 1 : 0,
                        due.tell(r, s, told) ? 1 : 0);
            }
        }
    }

    /** One of the bits of a set, NONE of an empty one. */
    private int oneOf(int set) {
        if (set <= 0) {
            return Plain.NONE;
        }
        int bit = below(6);
        while ((set >> bit & 1) == 0) {
            bit = (bit + 1) % 6;
        }
        return bit;
    }

    private int safe(int river, int what) {
        return river >= 0 && river < due.count(0) ? due.river(river, what) : 0;
    }

    private void question(int which) {
        int r = anyRiver();
        int o = anyRiver();
        int p = anyRiver();
        int s = anySeason();
        if (which < 13) {
            firstQuestions(which, r, o, s);
        } else {
            lastQuestions(which, r, o, p, s);
        }
    }

    private void firstQuestions(int which, int r, int o, int s) {
        int w;
        switch (which) {
            case 0 -> {
                w = anyWhat(8);
                same("river(" + r + ", " + w + ")", caught(true, r, w, true), caught(false, r, w, true));
            }
            case 1 -> {
                int h = oneIn(3) ? anything(-2, 101) : between(safe(r, 2), Math.max(safe(r, 1), safe(r, 2)));
                same("flow(" + r + ", " + h + ", " + s + ")", is.flow(r, h, s), due.flow(r, h, s));
            }
            case 2 -> {
                w = anyWhat(1);
                same("needs(" + w + ")", is.needs(w), due.needs(w));
            }
            case 3 -> same("near(" + r + ", " + o + ")", is.near(r, o), due.near(r, o));
            case 4 -> same("dig(" + r + ", " + o + ")", is.dig(r, o), due.dig(r, o));
            case 5 -> same("may(" + r + ")", is.may(r), due.may(r));
            case 6 -> same("ends()", is.ends(), due.ends());
            case 7 -> {
                w = anyWhat(2);
                same("judged(" + w + ")", is.judged(w), due.judged(w));
            }
            case 8 -> same("worn(" + r + ", " + o + ")", is.worn(r, o), due.worn(r, o));
            case 9 -> same("love(" + r + ")", is.love(r), due.love(r));
            case 10 -> same("hyphen(" + r + ")", is.hyphen(r), due.hyphen(r));
            case 11 -> {
                w = anyWhat(9);
                same("match(" + w + ")", is.match(w), due.match(w));
            }
            default -> {
                w = oneIn(3) ? anyWhat(6) : below(4);
                boolean down = safe(r, 2) >= safe(o, 2);
                int low = down ? o : r;
                int high = down ? r : o;
                same("chain(" + high + ", " + low + ", " + w + ")", is.chain(high, low, w), due.chain(high, low, w));
            }
        }
    }

    private void lastQuestions(int which, int r, int o, int p, int s) {
        int w;
        switch (which) {
            case 13 -> same("peace()", is.peace(), due.peace());
            case 14 -> same("cathedral(" + s + ")", is.cathedral(s), due.cathedral(s));
            case 15 -> same("eddies()", is.eddies(), due.eddies());
            case 16 -> {
                w = anyWhat(1);
                same("worst(" + r + ", " + w + ")", caught(true, r, w, false), caught(false, r, w, false));
            }
            case 17 -> {
                w = anyWhat(5);
                same("share(" + r + ", " + s + ", " + w + ")", is.share(r, s, w), due.share(r, s, w));
            }
            case 18 -> same("storms(" + r + ", " + s + ")", is.storms(r, s), due.storms(r, s));
            case 19 -> {
                w = oneIn(3) ? anything(-1, 1000001) : oneIn(2) ? Math.max(0, due.storms(r, s)) : 1000 * below(1001);
                same("walls(" + r + ", " + s + ", " + w + ")", is.walls(r, s, w), due.walls(r, s, w));
            }
            case 20, 21 -> {
                w = anyWhat(8);
                same("found(" + w + ")", is.found(w), due.found(w));
            }
            case 22 -> {
                w = oneIn(10) ? anything(-2, 4) : between(-1, 3);
                int men = due.may(r);
                int a = oneIn(8) ? o : oneOf(men);
                int b = oneIn(8) ? p : oneOf(men <= 0 || a < 0 || a > 5 ? men : men & ~(1 << a));
                same("rests(" + r + ", " + a + ", " + b + ", " + w + ")", is.rests(r, a, b, w),
                        due.rests(r, a, b, w));
            }
            case 23 -> {
                w = anyWhat(1);
                same("dams(" + r + ", " + o + ", " + w + ")", is.dams(r, o, w), due.dams(r, o, w));
            }
            case 24 -> {
                w = anyWhat(2);
                int seed = oneIn(8) ? anything(-2, 10001) : below(10000);
                int many = oneIn(8) ? anything(-1, 102) : between(1, 100);
                same("centuries(" + seed + ", " + many + ", " + w + ")", is.centuries(seed, many, w),
                        due.centuries(seed, many, w));
            }
            default -> {
                w = anyWhat(9);
                same("count(" + w + ")", is.count(w), due.count(w));
            }
        }
    }

    private long caught(boolean program, int r, int w, boolean river) {
        try {
            if (program) {
                return river ? is.river(r, w) : is.worst(r, w);
            }
            return river ? due.river(r, w) : due.worst(r, w);
        } catch (NoSuchElementException e) {
            return 1L << 40;
        }
    }
}
