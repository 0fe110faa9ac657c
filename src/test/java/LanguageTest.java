/** Promises 2 to 5: the tape, its tokens, the three texts and their faults, and what an E is worth. */
final class LanguageTest {
    private static final Saying SAY = new Saying();
    private static final String AA = "river aa brook from 9 to 2 place 1 water 1 2 3 4 ; ";
    private static final String TOWN = "river t brook from 9 to 5 place 1 water 1 2 3 4 town 5 at 5 ; "
            + "river u brook from 9 to 5 place 5 water 1 2 3 4 ; ";
    private static final String BB = "river bb salt from 9 to 0 place 5 water 1 1 1 1 ; ";

    private LanguageTest() { }

    public static void main(String[] args) {
        feeding();
        goodLands();
        misplaced();
        unknownAndAgain();
        numbersAmiss();
        tooMany();
        expressions();
        landStaysOrBegins();
        vows();
        wills();
        SAY.end("LanguageTest");
    }

    /** The stroke ^ stands ahead of the token that is wrong. */
    private static void landFault(int kind, String marked) {
        String text = marked.replace("^", "");
        int want = kind + 16 * marked.indexOf('^');
        SAY.due("land: " + marked, Saying.land(new RiverVows(), text), want);
    }

    private static void good(String text) {
        SAY.due("land: " + text, Saying.land(new RiverVows(), text), 0);
    }

    // ---- promise 2

    private static void feeding() {
        RiverVows x = new RiverVows();
        SAY.due("feed of nothing", x.feed(0, 0, 0), 0);
        SAY.due("feed of signs that are none", x.feed(0x00091F7F80FF0D0BL, -1L, Long.MIN_VALUE), 0);
        SAY.due("feed of the edges", x.feed(0x0A207E0000000000L, 0, 0), 3);
        SAY.due("count(9)", x.count(9), 3);
        SAY.due("land of ~", x.land(), 1 + 16 * 2);
        SAY.due("count(9)", x.count(9), 0);
        // k, i, n first, then 7, then ; : in another order it is no land
        SAY.due("feed kin", x.feed(0x6B696E0000000000L, 0x2037L, 0x3BL), 6);
        SAY.due("land of kin 7;", x.land(), 0);
        SAY.due("count(7)", x.count(7), 7);
        for (int i = 1; i <= 41; i++) {
            SAY.due("feed 24 more", x.feed(0x2020202020202020L, 0x2020202020202020L, 0x2020202020202020L), 24 * i);
        }
        SAY.due("feed over the end", x.feed(0x2020202020202020L, 0x6161616161616161L, 0x6262626262626262L), 1000);
        SAY.due("feed over the end", x.feed(0x2020202020202020L, 0, 0), 1000);
        // The 985th sign is the first a, and of the word eight letters are on the tape.
        SAY.due("land of blanks and a long word", x.land(), 1 + 16 * 992);
        for (int i = 0; i < 42; i++) {
            x.feed(0x3B3B3B3B3B3B3B3BL, 0x3B3B3B3B3B3B3B3BL, 0x3B3B3B3B3B3B3B3BL);
        }
        SAY.due("a thousand tokens", x.count(9), 1000);
        SAY.due("land of a thousand tokens", x.land(), 1);
        Saying.feed(x, "silt 1" + "+1".repeat(496) + ";;");
        SAY.due("a full tape", x.count(9), 1000);
        SAY.due("land of a full tape", x.land(), 1 + 16 * 999);
        Saying.feed(x, AA + "silt 1" + "+1".repeat(60) + "; dowry 1" + "*1".repeat(400) + ";");
        SAY.due("land of long E", x.land(), 0);
        x.seasons(1);
        SAY.due("silt of 61", x.river(0, 7), 61);
        SAY.due("feed on the empty tape", x.feed(0x2020202020202020L, 0, 0), 8);
    }

    // ---- promise 3

    private static void goodLands() {
        good("");
        good(" \n ");
        good(AA + BB);
        good("river a brook from 1 to 0 place 0 water 0 0 0 0 ;");
        good("river a proud from 99 to 98 place 99 water 99 99 99 99 mill 999 at 99 town 999 at 98 ;");
        good("river a clear from 99 to 0 place 9 water 1 1 1 1 mill 1 at 0 town 0 at 99 ;");
        good("river a salt from 9 to 0 place 9 water 1 1 1 1 town 0 at 9 ;");
        good(AA + "river eightsig brook from 9 to 2 place 1 water 1 2 3 4 of aa ;");
        good("river flow brook from9to 2place1water 1 2 3 4mill1at2town0at9;");
        good("river fall brook from 9 to 2 place 1 water 1 2 3 4 ; river near brook from 9 to 2 place 1 "
                + "water 1 2 3 4 of fall ; river dig brook from 9 to 2 place 1 water 1 2 3 4 of near ;");
        good("range 0 thick 1 ; range 99 thick 99 ; range 5 thick 5 ; range 6 thick 0006 ;");
        good("kin9;storm10by99;dowry 1;silt 0;");
        good("kin 0 ; storm 0 by 0 ;");
        good("silt\nflow\n;\n");
        RiverVows x = SAY.told("kin 0009 ; range 4 thick 2 ; " + AA);
        SAY.due("count(7)", x.count(7), 9);
        SAY.due("count(1)", x.count(1), 1);
        SAY.due("count(0)", x.count(0), 1);
    }

    private static void misplaced() {
        landFault(1, "^vow");
        landFault(1, "^aa");
        landFault(1, "^;");
        landFault(1, "^5");
        landFault(1, "^wed");
        landFault(1, "^Kin 1 ;");
        landFault(1, "^abcdefghi");
        landFault(1, "kin 1 ; ^; ");
        landFault(1, "kin 1^");
        landFault(1, "kin 1  ^");
        landFault(1, "kin^");
        landFault(1, "kin ^x");
        landFault(1, "kin ^12345 ;");
        landFault(1, "kin ^99999999999999999999999999999999999999 ;");
        landFault(1, "kin 1 ^:");
        landFault(1, "kin 1 ^2 ;");
        landFault(1, "river^");
        landFault(1, "river ^river");
        landFault(1, "river ^brook");
        landFault(1, "river ^and");
        landFault(1, "river ^5");
        landFault(1, "river ^(");
        landFault(1, "river ^abcdefghi");
        landFault(1, "river aa ^dead");
        landFault(1, "river aa ^5");
        landFault(1, "river aa brook ^to");
        landFault(1, "river aa brook from ^to");
        landFault(1, "river aa brook from 5 ^5");
        landFault(1, "river aa brook from 5 to 1 ^water");
        landFault(1, "river aa brook from 5 to 1 place 1 ^5");
        landFault(1, "river aa brook from 5 to 1 place 1 water 1 2 3 ^;");
        landFault(1, "river aa brook from 5 to 1 place 1 water 1 2 3 4 ^5");
        landFault(1, "river aa brook from 5 to 1 place 1 water 1 2 3 4 mill 5 ^;");
        landFault(1, "river aa brook from 5 to 1 place 1 water 1 2 3 4 town 5 at 2 ^mill");
        landFault(1, "river aa brook from 5 to 1 place 1 water 1 2 3 4 mill 5 at 2 ^mill");
        landFault(1, AA + "river bb brook from 5 to 1 place 1 water 1 2 3 4 of ^at");
        landFault(1, AA + "river bb brook from 5 to 1 place 1 water 1 2 3 4 of aa ^town");
        landFault(1, "range 5 ^;");
        landFault(1, "storm 5 ^5");
        landFault(1, "dowry ^;");
        landFault(1, "dowry ^kin");
        landFault(1, "dowry ^and");
        landFault(1, "dowry ^- 1 ;");
        landFault(1, "dowry ^) ;");
        landFault(1, "dowry 1 ^1 ;");
        landFault(1, "dowry 1 ^) ;");
        landFault(1, "dowry ( 1 ^;");
        landFault(1, "dowry ( ^) ;");
        landFault(1, "dowry 1 + ^+ 1 ;");
        landFault(1, "dowry 1 ^not 1 ;");
        landFault(1, "dowry dig < 1 ^< 2");
        landFault(1, "dowry dig = 1 ^= 2");
        landFault(1, "dowry 1 and ^or 2");
        landFault(1, "dowry ^99999999999999999999999999 ;");
        landFault(1, "silt ^near");
        landFault(1, "silt ^dig");
        landFault(1, "silt not not not not not ^;");
        landFault(1, "silt ( ( ( ( ( ^near");
    }

    private static void unknownAndAgain() {
        landFault(2, "river aa brook from 5 to 1 place 1 water 1 2 3 4 of ^aa ;");
        landFault(2, AA + "river bb brook from 5 to 1 place 1 water 1 2 3 4 of ^cc ;");
        landFault(2, AA + "river bb brook from 5 to 1 place 1 water 1 2 3 4 of ^aaa ;");
        landFault(2, AA + "river bb brook from 5 to 1 place 1 water 1 2 3 4 of ^flow ;");
        landFault(3, AA + BB + "river ^aa");
        landFault(3, AA + BB + "river ^bb brook from 100");
        landFault(3, "range 5 thick 1 ; range ^5");
        landFault(3, "range 5 thick 1 ; range 6 thick 1 ; range ^05 thick 0 ;");
        landFault(3, "kin 1 ; ^kin");
        landFault(3, "kin 0 ; ^kin 99 ;");
        landFault(3, "storm 1 by 1 ; ^storm");
        landFault(3, "storm 0 by 0 ; ^storm 5 by 5 ;");
        landFault(3, "dowry 1 ; ^dowry 1 ;");
        landFault(3, "silt 0 ; dowry 1 ; ^silt 0 ;");
    }

    private static void numbersAmiss() {
        landFault(4, "river aa brook from ^0");
        landFault(4, "river aa brook from ^100");
        landFault(4, "river aa brook from 5 to ^5");
        landFault(4, "river aa brook from 1 to ^1");
        landFault(4, "river aa brook from 5 to 1 place ^100");
        landFault(4, "river aa brook from 5 to 1 place 1 water ^100");
        landFault(4, "river aa brook from 5 to 1 place 1 water 1 2 3 ^9999");
        String to = "river aa brook from 9 to 2 place 1 water 1 2 3 4 ";
        landFault(4, to + "mill ^0");
        landFault(4, to + "mill ^1000");
        landFault(4, to + "mill 1 at ^1");
        landFault(4, to + "mill 1 at ^10");
        landFault(4, to + "town ^1000");
        landFault(4, to + "town 0 at ^1");
        landFault(4, to + "town 0 at ^10");
        landFault(4, "range ^100");
        landFault(4, "range 5 thick ^0");
        landFault(4, "range 5 thick ^100");
        landFault(4, "kin ^10");
        landFault(4, "storm ^11");
        landFault(4, "storm 5 by ^100");
    }

    private static String rivers(int many) {
        StringBuilder text = new StringBuilder();
        for (int i = 0; i < many; i++) {
            text.append("river r").append((char) ('a' + i)).append(" brook from 9 to 2 place 1 water 1 2 3 4 ; ");
        }
        return text.toString();
    }

    private static void tooMany() {
        good(rivers(6));
        landFault(5, rivers(6) + "^river");
        landFault(5, rivers(6) + "^river ra dead");
        String ranges = "range 1 thick 1 ; range 2 thick 1 ; range 3 thick 1 ; range 4 thick 1 ; ";
        good(ranges);
        landFault(5, ranges + "^range");
        landFault(5, ranges + "^range 1");
        good("silt not not not not 1 ;");
        landFault(5, "silt not not not not not ^1");
        landFault(5, "silt not not not not not ^not");
        landFault(5, "silt not not not not not ^( 1 )");
        landFault(5, "silt not not not not not ^flow");
        good("silt ( ( ( ( 1 ) ) ) ) ;");
        landFault(5, "silt ( ( ( ( ( ^1 ) ) ) ) ) ;");
        landFault(5, "silt ( ( ( ( ( ^( 1");
        landFault(5, "dowry ( not ( not ( ^near ) ) ) ;");
        good("dowry ( not ( not near ) ) + ( not ( not dig ) ) ;");
    }

    /** The dowry of a wife with flow 7 and fall 10, near 99, by a digging of 19. */
    private static void worth(String expression, int want) {
        RiverVows x = SAY.told("river a brook from 20 to 10 place 0 water 7 1 1 1 ; river b brook from 30 to 0 "
                + "place 15 water 3 3 3 3 ; range 5 thick 4 ; dowry " + expression + " ;");
        SAY.due("dowry " + expression, x.wed(0, 1), want);
        RiverVows y = SAY.told("river a brook from 20 to 10 place 0 water 7 1 1 1 ; range 5 thick 4 ; silt "
                + expression.replace("near", "99").replace("dig", "19") + " ;");
        y.seasons(1);
        SAY.due("silt " + expression, y.river(0, 7), want);
    }

    private static void expressions() {
        worth("flow", 7);
        worth("fall", 10);
        worth("near", 99);
        worth("dig", 19);
        worth("42", 42);
        worth("2 + 3 * 4", 14);
        worth("2 * 3 + 4", 10);
        worth("( 2 + 3 ) * 4", 20);
        worth("9 - 3 - 2", 4);
        worth("9 - ( 3 - 2 )", 8);
        worth("9 - 3 + 2", 8);
        worth("1 or 1 and 0", 0);
        worth("0 and 0 or 1", 1);
        worth("5 and 7", 1);
        worth("5 and 0", 0);
        worth("0 or 0", 0);
        worth("0 or 8", 1);
        worth("not 0", 1);
        worth("not 5 + 3", 3);
        worth("not 0 * 4", 4);
        worth("not not 7", 1);
        worth("3 < 4", 1);
        worth("4 < 4", 0);
        worth("5 < 4", 0);
        worth("0 - 5 < 4", 1);
        worth("4 = 4", 1);
        worth("4 = 5", 0);
        worth("1 + 1 = 2", 1);
        worth("3 = 1 + 1 or 1 < 2", 1);
        worth("2 < 3 and 4 = 4", 1);
        worth("( 2 < 3 ) + ( 4 = 4 )", 2);
        worth("not ( 1 = 2 )", 1);
        worth("( ( ( ( 5 ) ) ) )", 5);
        worth("flow - 50", 0);
        worth("flow - 7", 0);
        worth("99", 99);
        worth("100", 99);
        worth("9999 * 9999 * 9999 < 0", 1);
        worth("9999 * 9999 * 100", 99);
        worth("9999*9999*9999", 0);
        worth("1+(1+(1+(1+1)*2)*2)*2", 23);
        RiverVows x = SAY.told("river a brook from 20 to 10 place 0 water 7 1 1 1 ; "
                + "river b brook from 30 to 0 place 15 water 3 3 3 3 ;");
        SAY.due("wed without dowry", x.wed(0, 1), 1);
        x.seasons(3);
        SAY.due("silt without silt", x.river(0, 7), 0);
    }

    private static void landStaysOrBegins() {
        RiverVows x = SAY.told("river a brook from 20 to 10 place 0 water 7 1 1 1 ; "
                + "river b brook from 30 to 0 place 15 water 3 3 3 3 ; silt 2 ; kin 3 ;");
        x.seasons(2);
        x.wed(0, 1);
        x.tell(0, 0, 7);
        x.mark(2, false);
        SAY.due("vows", Saying.vows(x, "wed a b ;"), 0);
        SAY.due("will", Saying.will(x, "heir 1 ;"), 0);
        SAY.due("a land with a fault", Saying.land(x, "kin 1 ; river zz brook from 9 to 2 place 1 water 1 1 1 1 ; kin"),
                3 + 16 * 59);
        int[] before = {2, 0, 2, 1, 1, 1, 1, 3, 3, 0};
        for (int what = 0; what < 10; what++) {
            SAY.due("count(" + what + ") behind a fault", x.count(what), before[what]);
        }
        SAY.due("silt behind a fault", x.river(0, 7), 4);
        SAY.due("owed behind a fault", x.river(1, 8), 1);
        SAY.due("land", Saying.land(x, AA + BB), 0);
        int[] behind = {2, 0, 0, 0, 0, -1, 0, 0, 0, 0};
        for (int what = 0; what < 10; what++) {
            SAY.due("count(" + what + ") in a new land", x.count(what), behind[what]);
        }
        SAY.due("silt in a new land", x.river(0, 7), 0);
        SAY.due("owed in a new land", x.river(1, 8), 0);
        SAY.due("husband in a new land", x.river(0, 5), -1);
        SAY.due("undo in a new land", x.undo(), false);
        SAY.due("a mark in a new land", x.mark(2, true), false);
        String full = TOWN + "storm 10 by 99 ; range 3 thick 5 ; kin 4 ; silt 9 ; dowry 9 ;";
        for (int i = 0; i < 3; i++) {
            SAY.due("a full land", Saying.land(x, full), 0);
        }
        for (int i = 0; i < 3; i++) {
            SAY.due("a bare land", Saying.land(x, TOWN), 0);
            SAY.due("no storm of a land before", x.worst(0, 1), -1);
            SAY.due("no storm of a land before", x.storms(0, 3), 0);
            SAY.due("no range of a land before", x.count(1), 0);
            SAY.due("no kin of a land before", x.count(7), 0);
            SAY.due("no mother, mill of a land before", x.river(1, 4), -1);
            SAY.due("no dowry of a land before", x.wed(0, 1), 1);
            SAY.due("no silt of a land before", x.seasons(1) + x.river(0, 7), 1);
        }
        String fuller = TOWN.replace("1 2 3 4 ;", "1 2 3 4 mill 99 at 5 town 0 at 5 of t ;");
        Saying.land(x, fuller);
        Saying.land(x, fuller);
        SAY.due("dry and flooded", x.needs(0) + x.needs(1), 4);
        Saying.land(x, TOWN);
        SAY.due("no mill of a land before", x.needs(0), 0);
        SAY.due("no town of a land before", x.needs(1), 0);
        SAY.due("no mother of a land before", x.river(1, 4), -1);
        SAY.due("an empty land", Saying.land(x, ""), 0);
        SAY.due("count(0) of an empty land", x.count(0), 0);
    }

    // ---- promise 4

    private static void vowsFault(int kind, String marked) {
        RiverVows x = SAY.told(AA + BB);
        Saying.vows(x, "season ; season ;");
        String text = marked.replace("^", "");
        SAY.due("vows: " + marked, Saying.vows(x, text), kind + 16 * marked.indexOf('^'));
        SAY.due("count(4) behind a fault", x.count(4), 2);
        SAY.due("count(9) behind a fault", x.count(9), 0);
    }

    private static void vows() {
        RiverVows x = SAY.told(AA + BB);
        String all = "season ; ".repeat(24);
        SAY.due("vows of 24 lines", Saying.vows(x, all), 0);
        SAY.due("count(4)", x.count(4), 24);
        SAY.due("vows", Saying.vows(x, "wed aa bb;part aa;season;"), 0);
        SAY.due("count(4)", x.count(4), 3);
        SAY.due("vows of nothing", Saying.vows(x, ""), 0);
        SAY.due("count(4)", x.count(4), 0);
        vowsFault(5, all + "^season");
        vowsFault(5, all + "^part zz");
        vowsFault(1, all + "^aa");
        vowsFault(1, all + "^;");
        vowsFault(1, "^heir");
        vowsFault(1, "season ^1");
        vowsFault(1, "season^");
        vowsFault(1, "wed ^season");
        vowsFault(1, "wed ^;");
        vowsFault(1, "wed aa ^;");
        vowsFault(1, "wed aa bb ^aa");
        vowsFault(1, "part ^5");
        vowsFault(1, "part aa ^bb");
        vowsFault(2, "wed ^cc aa");
        vowsFault(2, "wed aa ^cc");
        vowsFault(2, "wed ^zz zz");
        vowsFault(2, "part ^cc");
        vowsFault(3, "wed aa ^aa");
        vowsFault(3, "season ; wed bb ^bb");
        RiverVows none = new RiverVows();
        SAY.due("vows of no river", Saying.vows(none, "part aa"), 2 + 16 * 5);
        SAY.due("vows of no river", Saying.vows(none, "season ;"), 0);
    }

    // ---- promise 5

    private static void willFault(int kind, String marked) {
        RiverVows x = new RiverVows();
        Saying.will(x, "heir 1 ; heir 2 ;");
        String text = marked.replace("^", "");
        SAY.due("will: " + marked, Saying.will(x, text), kind + 16 * marked.indexOf('^'));
        SAY.due("count(5) behind a fault", x.count(5), 2);
    }

    private static void wills() {
        RiverVows x = new RiverVows();
        SAY.due("count(5)", x.count(5), -1);
        SAY.due("will of nothing", Saying.will(x, " "), 0);
        SAY.due("count(5)", x.count(5), 0);
        SAY.due("will", Saying.will(x, "heir 0;heir 99;heir 1;heir 2;heir 3;heir 4;"), 0);
        SAY.due("count(5)", x.count(5), 6);
        willFault(1, "^son");
        willFault(1, "heir ^;");
        willFault(1, "heir 1^");
        willFault(1, "heir 1 ^2");
        willFault(1, "heir ^aa");
        willFault(4, "heir ^100");
        willFault(5, "heir 1 ; heir 1 ; heir 1 ; heir 1 ; heir 1 ; heir 1 ; ^heir");
        willFault(1, "heir 1 ; heir 1 ; heir 1 ; heir 1 ; heir 1 ; heir 1 ; ^son");
    }
}
