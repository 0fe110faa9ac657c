/** Edges of what the terms say of the tape, tokens, texts and their faults, and of promises 2 to 5. */
final class TextEdges {
    private static final String AA = "river aa brook from 9 to 2 place 1 water 1 2 3 4 ; ";
    private static final String BB = "river bb brook from 9 to 0 place 5 water 1 1 1 1 ; ";
    /** Every line there is, with a blank between each two tokens. */
    private static final String FULL = "river aa brook from 9 to 2 place 1 water 1 2 3 4 mill 3 at 4 town 5 at 6 ; "
            + "river bb clear from 20 to 10 place 7 water 5 6 7 8 mill 1 at 10 town 0 at 20 of aa ; "
            + "range 5 thick 6 ; kin 1 ; storm 2 by 3 ; dowry not ( flow + 2 * fall - near < dig and 1 = 1 or 0 ) ; "
            + "silt flow ; ";
    private static final String[] RESERVED = ("river from to place water mill town at of range thick kin storm by dowry "
            + "silt wed part season heir brook proud clear salt not and or").split(" ");

    private final Saying say;

    TextEdges(Saying say) {
        this.say = say;
    }

    void all() {
        tapeLength();
        tapeSigns();
        tapeIsTaken();
        tokensAreLong();
        blanks();
        words();
        numbers();
        signs();
        landOfAnyLines();
        riverNumbers();
        millsAndTowns();
        mothers();
        ranges();
        laws();
        vowLines();
        heirs();
        names();
        grammar();
        depth();
        facts();
        truth();
        faultPlaces();
        faultKinds();
        tooMany();
        newLand();
        promises();
    }

    // ---- helpers

    private static RiverVows fresh() {
        return new RiverVows();
    }

    /** The first ^ is no sign of the text: it stands ahead of the token that is wrong. */
    private static String unmarked(String marked) {
        return marked.replaceFirst("\\^", "");
    }

    private void landFault(int kind, String marked) {
        int want = kind + 16 * marked.indexOf('^');
        say.due("land: " + marked, Saying.land(fresh(), unmarked(marked)), want);
    }

    private void vowsFault(int kind, String marked) {
        RiverVows x = say.told(AA + BB);
        say.due("vows: " + marked, Saying.vows(x, unmarked(marked)), kind + 16 * marked.indexOf('^'));
    }

    private void willFault(int kind, String marked) {
        say.due("will: " + marked, Saying.will(fresh(), unmarked(marked)), kind + 16 * marked.indexOf('^'));
    }

    private void good(String text) {
        say.due("land: " + text, Saying.land(fresh(), text), 0);
    }

    /** A number of a land on both sides of its bounds; # stands for it. */
    private void bounds(String text, int least, int most) {
        String[] sides = text.split("#", -1);
        String head = sides[0];
        for (int value : new int[] {least, least + 1, most - 1, most}) {
            if (value >= least && value <= most) {
                good(head + value + sides[1]);
            }
        }
        for (int value : new int[] {least - 1, most + 1, 9999}) {
            if (value >= 0) {
                landFault(4, head + "^" + value + sides[1]);
            }
        }
        landFault(1, head + "^10000" + sides[1]);
        landFault(1, head + "^aa" + sides[1]);
        landFault(1, head + "^- 1" + sides[1]);
    }

    private static String rivers(int many) {
        StringBuilder text = new StringBuilder();
        for (int i = 0; i < many; i++) {
            text.append("river r").append((char) ('a' + i)).append(" brook from 9 to 2 place ").append(10 + i)
                    .append(" water 1 2 3 4 ; ");
        }
        return text.toString();
    }

    private static String ranges(int many) {
        StringBuilder text = new StringBuilder();
        for (int i = 0; i < many; i++) {
            text.append("range ").append(i).append(" thick 1 ; ");
        }
        return text.toString();
    }

    /** The dowry of a wife with flow 7 and fall 10, near 99, by a digging of 19. */
    private void worth(String expression, int want) {
        RiverVows x = say.told("river a brook from 20 to 10 place 0 water 7 1 1 1 ; river b brook from 30 to 0 "
                + "place 15 water 3 3 3 3 ; range 5 thick 4 ; dowry " + expression + " ;");
        say.due("dowry " + expression, x.wed(0, 1), want);
    }

    // ---- the tape

    private void tapeLength() {
        say.says(0, "The TAPE has at most 1,000 signs");
        RiverVows x = fresh();
        Saying.feed(x, " ".repeat(999));
        say.due("999 signs", x.count(9), 999);
        say.due("the 1000th", x.feed(0, 0, 32), 1000);
        say.due("no 1001st", x.feed(0, 0, 32), 1000);
        RiverVows y = fresh();
        Saying.feed(y, " ".repeat(999));
        say.due("24 at 999", y.feed(0x2020202020202020L, 0x2020202020202020L, 0x2020202020202020L), 1000);
        say.due("the 1000th sign is read", Saying.land(fresh(), "kin 9" + " ".repeat(994) + ";"), 0);
        say.due("the 1001st is not", Saying.land(fresh(), "kin 9" + " ".repeat(995) + ";"), 1 + 16 * 1000);
        say.due("a wrong 1000th", Saying.land(fresh(), " ".repeat(999) + "!"), 1 + 16 * 999);
        say.due("a wrong 1001st", Saying.land(fresh(), " ".repeat(1000) + "!"), 0);
        say.due("a thousand tokens", Saying.land(fresh(), ";".repeat(1000)), 1);
        say.due("a thousand tokens as vows", Saying.vows(fresh(), ";".repeat(1001)), 1);
        say.due("a thousand tokens as a will", Saying.will(fresh(), ";".repeat(1001)), 1);
        say.due("of nine letters eight fit", Saying.land(fresh(), AA + " ".repeat(992 - AA.length()) + "abcdefghi"),
                1 + 16 * 992);
        say.due("of a number four digits fit", Saying.land(fresh(), " ".repeat(992) + "kin 00090 ;"), 1 + 16 * 1000);
    }

    private void tapeSigns() {
        say.says(0, "10 and 32 .. 126");
        for (int sign = 0; sign < 256; sign++) {
            boolean stays = sign == 10 || sign >= 32 && sign <= 126;
            say.due("sign " + sign, fresh().feed(0, 0, sign), stays ? 1 : 0);
            say.due("sign " + sign + " first", fresh().feed((long) sign << 56, 0, 0), stays ? 1 : 0);
        }
        say.due("what is left out parts no word", Saying.land(fresh(), "k\0i\tn\u00ff \r5\u007f;"), 0);
        say.due("what is left out has no place", Saying.land(fresh(), "\0\0\t\u0080!"), 1);
    }

    private void tapeIsTaken() {
        say.says(0, "what reads it takes it: it is empty then.");
        RiverVows x = fresh();
        for (String text : new String[] {"kin 1 ;", "!", ""}) {
            say.due("land", Saying.land(x, text), text.equals("!") ? 1 : 0);
            say.due("empty behind land of " + text, x.count(9), 0);
            say.due("land of what is left", x.land(), 0);
        }
        for (String text : new String[] {"season ;", "!", ""}) {
            say.due("vows", Saying.vows(x, text), text.equals("!") ? 1 : 0);
            say.due("empty behind vows of " + text, x.count(9), 0);
            say.due("vows of what is left", x.vows(), 0);
        }
        for (String text : new String[] {"heir 1 ;", "!", ""}) {
            say.due("will", Saying.will(x, text), text.equals("!") ? 1 : 0);
            say.due("empty behind will of " + text, x.count(9), 0);
            say.due("will of what is left", x.will(), 0);
        }
        Saying.feed(x, " ".repeat(1000));
        x.vows();
        say.due("a full tape that was read has room again", x.feed(0, 0, 32), 1);
    }

    // ---- tokens

    private void tokensAreLong() {
        say.says(0, "TOKENS, each as long as can be");
        landFault(1, "^kinn 5 ;");
        landFault(1, "^riveraa brook");
        landFault(4, "kin ^12;");
        landFault(1, "kin 1 ^2;");
        landFault(1, "river aa ^brookfrom 9");
        landFault(1, "river ^abcdefghbrook from 9");
        landFault(1, "dowry ^notnot 1");
        landFault(1, "dowry 1 ^oror 1");
    }

    private void blanks() {
        say.says(0, "blanks (10, 32) between where one likes");
        good("kin9;");
        good("\n\n kin\n9\n; \n");
        good("  kin  9  ;  ");
        good("river a brook from9to2place1water 1 2 3 4mill1at9town1at2;range1thick2;storm1by1;kin1;");
        good("dowry((1<2)+3)*4;silt not(flow=1);");
        landFault(1, "^k in 9 ;");
        landFault(1, "kin 1 ^0 ;");
        landFault(1, "kin^_9 ;");
    }

    private void words() {
        say.says(0, "WORDS (letters a .. z, 8 at most)");
        String tail = " brook from 9 to 2 place 1 water 1 2 3 4 ; ";
        good("river a" + tail + "river z" + tail + "river abcdefgh" + tail + "river zzzzzzzz" + tail);
        good("river aaaaaaaa" + tail + "river aaaaaaa" + tail);
        landFault(1, "river ^abcdefghi" + tail);
        landFault(1, "river ^aaaaaaaaa" + tail);
        landFault(1, "river ^" + "z".repeat(200) + tail);
        for (char sign : "`{@[AZ_".toCharArray()) {
            landFault(1, "river ^" + sign + tail);
            landFault(1, "river a^" + sign + tail);
        }
    }

    private void numbers() {
        say.says(0, "NUMBERS (1 to 4 digits");
        for (String number : new String[] {"9", "09", "009", "0009", "0", "00", "000", "0000"}) {
            good("kin " + number + " ;");
        }
        landFault(1, "kin ^00009 ;");
        landFault(1, "kin ^00000 ;");
        landFault(1, "kin ^" + "0".repeat(100) + " ;");
        landFault(1, "kin ^4294967296 ;");
        landFault(1, "kin ^18446744073709551617 ;");
        landFault(1, "kin ^/ ;");
        landFault(1, "kin ^: ;");
        landFault(1, "kin 9^/ ;");
        worth("9999 - 9990", 9);
        landFault(1, "dowry ^10000 - 9990 ;");
        say.says(0, "a letter may stand right behind)");
        good("river a brook from 9to 2place 1water 1 2 3 4mill 1at 2town 1at 2;");
        good("dowry 1and 1or 0;");
        landFault(1, "kin 9^x;");
        landFault(1, "kin ^12345x;");
    }

    private void signs() {
        say.says(0, "the signs ( ) < = + - * ;");
        good("dowry ( 1 < 2 ) + 3 * 4 - 5 = 6 ;");
        say.says(0, "All else (a longer WORD or NUMBER, too, at its first sign) is none.");
        for (int sign = 33; sign < 127; sign++) {
            boolean plain = sign >= 'a' && sign <= 'z' || sign >= '0' && sign <= '9';
            if (!plain && "()<=+-*;".indexOf(sign) < 0) {
                landFault(1, "kin 1 ; ^" + (char) sign);
                landFault(1, "kin 1 ^" + (char) sign + ";");
                landFault(1, "dowry 1 ^" + (char) sign + " 1 ;");
            }
        }
        landFault(1, "kin 1 ; ^riverrive aa brook");
        landFault(1, "kin 1 ; range ^00001 thick 1");
    }

    // ---- a land

    private void landOfAnyLines() {
        say.says(0, "LAND: any number of river NAME KIND from N to N place N water N N N N MILL TOWN MOTHER ; "
                + "range N thick N ; kin N ; storm N by N ; dowry E ; silt E ;");
        good("");
        good(FULL);
        good("silt 1 ; dowry 2 ; storm 1 by 1 ; kin 3 ; range 1 thick 1 ; " + BB + "range 2 thick 1 ; " + AA);
        String[] tokens = FULL.trim().split(" ");
        int place = 0;
        for (int i = 0; i < tokens.length; i++) {
            String head = FULL.substring(0, place);
            if (i > 0) {
                boolean ended = tokens[i - 1].equals(";");
                say.due("ends ahead of " + tokens[i], Saying.land(fresh(), head), ended ? 0 : 1 + 16 * place);
            }
            landFault(1, head + "^! " + FULL.substring(place + tokens[i].length()));
            landFault(1, head + "^abcdefghi " + FULL.substring(place + tokens[i].length()));
            landFault(1, head + "^12345 " + FULL.substring(place + tokens[i].length()));
            place += tokens[i].length() + 1;
        }
        say.says(0, "river: 6 at most, numbered as told");
        RiverVows six = say.told(rivers(6));
        say.due("six", six.count(0), 6);
        for (int r = 0; r < 6; r++) {
            say.due("numbered as told", six.river(r, 3), 10 + r);
        }
        landFault(5, rivers(6) + "^river rg brook from 9 to 2 place 1 water 1 2 3 4 ;");
        say.says(0, "KIND: brook, proud, clear, salt");
        String[] kinds = {"brook", "proud", "clear", "salt"};
        for (int kind = 0; kind < 4; kind++) {
            RiverVows x = say.told("river a " + kinds[kind] + " from 9 to 2 place 1 water 1 2 3 4 ;");
            say.due(kinds[kind], x.river(0, 0), kind);
        }
        for (String none : new String[] {"brooks", "broo", "river", "aa", "flow", "0", ";"}) {
            landFault(1, "river a ^" + none + " from 9 to 2 place 1 water 1 2 3 4 ;");
        }
    }

    private void riverNumbers() {
        say.says(0, "from (its spring's height) 1 to 99");
        bounds("river a brook from # to 0 place 1 water 1 2 3 4 ;", 1, 99);
        say.says(0, "to (its mouth's) 0 to from less 1");
        for (int from : new int[] {1, 2, 50, 98, 99}) {
            bounds("river a brook from " + from + " to # place 1 water 1 2 3 4 ;", 0, from - 1);
        }
        say.says(0, "place 0 to 99");
        bounds("river a brook from 9 to 2 place # water 1 2 3 4 ;", 0, 99);
        say.says(0, "water in the four seasons, 0 to 99 each");
        bounds("river a brook from 9 to 2 place 1 water # 2 3 4 ;", 0, 99);
        bounds("river a brook from 9 to 2 place 1 water 1 # 3 4 ;", 0, 99);
        bounds("river a brook from 9 to 2 place 1 water 1 2 # 4 ;", 0, 99);
        bounds("river a brook from 9 to 2 place 1 water 1 2 3 # ;", 0, 99);
        landFault(1, "river a brook from 9 to 2 place 1 water 1 2 3 ^;");
        landFault(1, "river a brook from 9 to 2 place 1 water 1 2 3 4 ^5 ;");
        landFault(1, "river a brook from 9 to 2 place 1 ^mill 1 at 2 ! ;");
        landFault(1, "river a brook from 9 to 2 place 1 ^of a ;");
        RiverVows x = say.told("river a brook from 99 to 98 place 99 water 0 99 1 98 ; "
                + "river b brook from 1 to 0 place 0 water 0 0 0 0 ;");
        int[] due = {0, 99, 1, 98};
        for (int season = 0; season < 4; season++) {
            say.due("water " + season, x.flow(0, 99, season), due[season]);
        }
        say.due("from, to, place", x.river(0, 1) + 100 * x.river(0, 2) + 10000 * x.river(0, 3), 999899);
        say.due("from, to, place", x.river(1, 1) + 100 * x.river(1, 2) + 10000 * x.river(1, 3), 1);
    }

    private void millsAndTowns() {
        String a = "river a brook from 9 to 2 place 1 water 1 2 3 4 ";
        say.says(0, "MILL is nothing or mill N at N");
        good(a + ";");
        good(a + "mill 1 at 2 ;");
        landFault(1, a + "mill ^at 2 ;");
        landFault(1, a + "mill 1 ^2 ;");
        landFault(1, a + "mill 1 at ^;");
        landFault(1, a + "mill 1 at 2 ^mill 1 at 2 ;");
        say.says(0, "(what it wants, 1 to 999; its height, no more than from, no less than to)");
        bounds(a + "mill # at 2 ;", 1, 999);
        bounds(a + "mill 1 at # ;", 2, 9);
        bounds("river a brook from 99 to 0 place 1 water 1 2 3 4 mill 1 at # ;", 0, 99);
        bounds("river a brook from 1 to 0 place 1 water 1 2 3 4 mill 1 at # ;", 0, 1);
        say.says(0, "TOWN nothing or town N at N (what its walls hold, 0 to 999; likewise)");
        good(a + "town 1 at 2 ;");
        landFault(1, a + "town 1 ^;");
        landFault(1, a + "town 1 at 2 ^town 1 at 2 ;");
        bounds(a + "town # at 2 ;", 0, 999);
        bounds(a + "town 1 at # ;", 2, 9);
        bounds(a + "mill 5 at 5 town 1 at # ;", 2, 9);
        bounds("river a brook from 99 to 98 place 1 water 1 2 3 4 town 1 at # ;", 98, 99);
    }

    private void mothers() {
        say.says(0, "MOTHER nothing or of NAME (a RIVER told), in this order.");
        String b = AA + "river b brook from 9 to 2 place 1 water 1 2 3 4 ";
        String[] parts = {"mill 1 at 2 ", "town 1 at 2 ", "of aa "};
        for (int set = 0; set < 8; set++) {
            StringBuilder text = new StringBuilder(b);
            for (int i = 0; i < 3; i++) {
                text.append((set >> i & 1) != 0 ? parts[i] : "");
            }
            good(text + ";");
        }
        for (int later = 1; later < 3; later++) {
            for (int earlier = 0; earlier <= later; earlier++) {
                landFault(1, b + parts[later] + "^" + parts[earlier] + ";");
            }
        }
        landFault(2, b + "of ^b ;");
        landFault(2, b + "of ^cc ; river cc brook from 9 to 2 place 1 water 1 2 3 4 ;");
        landFault(2, "river aa brook from 9 to 2 place 1 water 1 2 3 4 of ^aa ;");
        RiverVows x = say.told(b + "of aa ; river c brook from 9 to 2 place 1 water 1 2 3 4 of b ;");
        say.due("no mother", x.river(0, 4), -1);
        say.due("mother of b", x.river(1, 4), 0);
        say.due("mother of c", x.river(2, 4), 1);
    }

    private void ranges() {
        say.says(0, "range: at a place 0 to 99, thick 1 to 99");
        bounds("range # thick 1 ;", 0, 99);
        bounds("range 5 thick # ;", 1, 99);
        say.says(0, "4 at most, each place once.");
        for (int many = 0; many <= 4; many++) {
            say.due("so many ranges", say.told(ranges(many)).count(1), many);
        }
        landFault(5, ranges(4) + "^range 4 thick 1 ;");
        landFault(3, ranges(1) + "range ^0 thick 1 ;");
        landFault(3, ranges(3) + "range ^0 thick 1 ;");
        landFault(3, ranges(3) + "range ^2 thick 1 ;");
        landFault(3, ranges(3) + "range ^0002 thick 1 ;");
        good(ranges(3) + "range 3 thick 1 ;");
    }

    private void laws() {
        say.says(0, "kin 0 to 9 (0).");
        bounds("kin # ;", 0, 9);
        say.due("kin untold", say.told(AA).count(7), 0);
        say.due("kin 9", say.told(AA + "kin 9 ;").count(7), 9);
        say.says(0, "storm: by chances 0 to 10 of ten each RIVER has so much more, 0 to 99.");
        bounds("storm # by 1 ;", 0, 10);
        bounds("storm 1 by # ;", 0, 99);
        String town = "river a brook from 9 to 2 place 1 water 1 2 3 4 town 50 at 2 ; ";
        say.due("never", say.told(town + "storm 0 by 99 ;").storms(0, 0), 0);
        say.due("once in ten", say.told(town + "storm 1 by 50 ;").storms(0, 0), 100000);
        say.due("always", say.told(town + "storm 10 by 50 ;").storms(0, 0), 1000000);
        say.due("always too little", say.told(town + "storm 10 by 49 ;").storms(0, 0), 0);
        say.due("by nothing", say.told(town + "storm 10 by 0 ;").storms(0, 0), 0);
        say.says(0, "kin, storm, dowry, silt: once each.");
        String[] laws = {"kin 1 ; ", "storm 1 by 1 ; ", "dowry 1 ; ", "silt 1 ; "};
        good(laws[0] + laws[1] + laws[2] + laws[3]);
        good(laws[3] + laws[2] + laws[1] + laws[0]);
        for (String law : laws) {
            good(law);
            landFault(3, law + "^" + law);
            landFault(3, law + AA + BB + "^" + law);
        }
    }

    // ---- vows, a will, names

    private void vowLines() {
        say.says(0, "VOWS: any number of wed NAME NAME ; part NAME ; season ;");
        RiverVows x = say.told(AA + BB);
        say.due("no lines", Saying.vows(x, ""), 0);
        say.due("no lines", x.count(4), 0);
        say.due("one of each", Saying.vows(x, "wed aa bb ; part aa ; season ; wed bb aa ;"), 0);
        say.due("one of each", x.count(4), 4);
        vowsFault(1, "wed aa bb ^bb ;");
        vowsFault(1, "wed aa ^;");
        vowsFault(1, "part aa ^bb ;");
        vowsFault(1, "part ^;");
        vowsFault(1, "season ^aa ;");
        vowsFault(1, "season ; ^;");
        vowsFault(1, "^river");
        for (String head : new String[] {"wed", "wed aa", "wed aa bb", "part", "part aa", "season"}) {
            vowsFault(1, head + "^");
        }
        say.says(0, "24 lines at most, of RIVERS told.");
        String all = "wed aa bb ; part aa ; season ; ".repeat(8);
        say.due("24 lines", Saying.vows(x, all), 0);
        say.due("24 lines", x.count(4), 24);
        vowsFault(5, all + "^wed aa bb ;");
        vowsFault(5, all + "^part aa ;");
        vowsFault(5, all + "^season ;");
        vowsFault(2, "part ^a ;");
        vowsFault(2, "wed ^aaa bb ;");
        say.due("another land", Saying.land(x, BB), 0);
        say.due("a river of the land before", Saying.vows(x, "part aa ;"), 2 + 16 * 5);
        say.due("a river of this land", Saying.vows(x, "part bb ;"), 0);
    }

    private void heirs() {
        say.says(0, "WILL: any number of heir N ;");
        RiverVows x = fresh();
        say.due("no WILL", x.count(5), -1);
        say.due("no heirs", Saying.will(x, ""), 0);
        say.due("no heirs", x.count(5), 0);
        willFault(1, "^heirs 1 ;");
        willFault(1, "heir ^;");
        willFault(1, "heir 1 ^heir 1 ;");
        willFault(1, "heir 1^");
        willFault(1, "heir^");
        say.says(0, "6 at most: what each wants, 0 to 99.");
        for (int many = 1; many <= 6; many++) {
            say.due("so many heirs", Saying.will(x, "heir 1 ; ".repeat(many)), 0);
            say.due("so many heirs", x.count(5), many);
        }
        willFault(5, "heir 1 ; ".repeat(6) + "^heir 1 ;");
        for (int wants : new int[] {0, 1, 98, 99}) {
            say.due("wants " + wants, Saying.will(x, "heir " + wants + " ;"), 0);
        }
        willFault(4, "heir ^100 ;");
        willFault(4, "heir ^9999 ;");
        willFault(1, "heir ^10000 ;");
        willFault(1, "heir ^- 1 ;");
    }

    private void names() {
        say.says(0, "A NAME is another WORD than river, from, to, place, water, mill, town, at, of, range, thick, kin, "
                + "storm, by, dowry, silt, wed, part, season, heir, the KINDS, not, and, or");
        String tail = " brook from 9 to 2 place 1 water 1 2 3 4 ; ";
        for (String word : RESERVED) {
            landFault(1, "river ^" + word + tail);
            landFault(1, AA + "river b" + tail.replace(";", "of ^" + word + " ;"));
            vowsFault(1, "part ^" + word + " ;");
            vowsFault(1, "wed ^" + word + " aa ;");
            vowsFault(1, "wed aa ^" + word + " ;");
            good("river " + word + "x" + tail);
            good("river x" + word + tail);
        }
        for (String word : "flow fall near dig land vows will e n name kind test sum rivers".split(" ")) {
            good("river " + word + tail + "river b" + tail.replace(";", "of " + word + " ;"));
        }
        say.says(0, "no two are alike.");
        landFault(3, AA + BB + "river ^aa" + tail);
        landFault(3, AA + BB + "river ^bb" + tail);
        landFault(3, "river flow" + tail + "river ^flow" + tail);
        landFault(3, "river abcdefgh" + tail + "river ^abcdefgh" + tail);
        good("river abcdefgh" + tail + "river abcdefgi" + tail + "river bbcdefgh" + tail + "river abcdefg" + tail);
        good("river a" + tail + "river aa" + tail + "river aaa" + tail);
    }

    // ---- an E

    private void grammar() {
        say.says(0, "E: TEST { and TEST or or TEST }, from the left");
        worth("1 or 1 and 0", 0);
        worth("0 and 0 or 1", 1);
        worth("0 and ( 0 or 1 )", 0);
        worth("1 and 1 and 1 and 0 or 1", 1);
        landFault(1, "dowry ^and 1 ;");
        landFault(1, "dowry 1 and ^;");
        landFault(1, "dowry 1 or ^and 1 ;");
        landFault(1, "dowry 1 ^1 ;");
        say.says(0, "TEST: SUM, or SUM < SUM, or SUM = SUM");
        worth("3", 3);
        worth("1 + 1 < 1 + 2", 1);
        worth("1 + 2 < 1 + 2", 0);
        worth("1 + 2 = 1 + 2", 1);
        worth("1 + 2 = 2 + 2", 0);
        worth("( 1 < 2 ) < 2", 1);
        landFault(1, "dowry 1 < 2 ^< 3 ;");
        landFault(1, "dowry 1 < 2 ^= 3 ;");
        landFault(1, "dowry 1 = 2 ^< 3 ;");
        landFault(1, "dowry 1 = 2 ^= 3 ;");
        landFault(1, "dowry ^< 1 ;");
        landFault(1, "dowry 1 < ^;");
        landFault(1, "dowry 1 = ^= 1 ;");
        good("dowry 1 < 2 and 2 < 3 or 3 = 4 ;");
        say.says(0, "SUM: PRODUCT { + or - PRODUCT }");
        worth("9 - 3 - 2", 4);
        worth("9 - 3 + 2", 8);
        worth("2 + 3 * 4 - 1", 13);
        landFault(1, "dowry ^- 1 ;");
        landFault(1, "dowry ^+ 1 ;");
        landFault(1, "dowry 1 + ^;");
        landFault(1, "dowry 1 + ^- 1 ;");
        say.says(0, "PRODUCT: PART { * PART }");
        worth("2 * 3 * 4", 24);
        worth("2 * 3 + 4 * 5", 26);
        landFault(1, "dowry ^* 1 ;");
        landFault(1, "dowry 1 * ^;");
        landFault(1, "dowry 1 * ^* 1 ;");
        say.says(0, "PART: a NUMBER, a fact, not PART, ( E )");
        worth("0", 0);
        worth("flow", 7);
        worth("not flow", 0);
        worth("not ( flow < 7 )", 1);
        worth("not 0 * 5", 5);
        worth("( 1 or 0 and 0 ) + 5", 5);
        landFault(1, "dowry ^notx ;");
        landFault(1, "dowry not ^;");
        landFault(1, "dowry not ^and 1 ;");
        landFault(1, "dowry ( ^) ;");
        landFault(1, "dowry ( 1 ^;");
        landFault(1, "dowry ( 1 ^( ;");
        landFault(1, "dowry 1 ^) ;");
        landFault(1, "dowry ( 1 ) ^) ;");
        landFault(1, "dowry ^;");
        landFault(1, "dowry ^aa ;");
    }

    private void depth() {
        say.says(0, "no PART lies within 5 of not and ( ).");
        for (int set = 0; set < 16; set++) {
            good("dowry " + wrapped(set, 4, "near") + ";");
            good("silt " + wrapped(set, 4, "1") + ";");
        }
        for (int set = 0; set < 32; set++) {
            for (String part : new String[] {"1", "flow", "fall", "near", "dig", "not 1", "( 1 )", "1 + 1"}) {
                landFault(5, "dowry " + wrapped(set, 5, "^" + part) + ";");
            }
            landFault(1, "silt " + wrapped(set, 5, "^near") + ";");
            landFault(1, "silt " + wrapped(set, 5, "^and") + ";");
        }
        for (int set = 0; set < 64; set++) {
            landFault(5, "dowry " + wrappedBehind(set) + ";");
        }
        good("dowry ( ( ( ( 1 ) ) ) ) + ( ( ( ( 1 ) ) ) ) * not not not not 1 ;");
        good("dowry ( ( ( ( 1 ) + ( 1 ) ) + ( ( 1 ) ) ) + 1 ) + 1 ;");
        good("dowry ( not ( not 1 + not 1 ) + ( not ( 1 ) ) ) ;");
        worth("not not not not 5", 1);
        worth("( ( ( ( 5 ) + 1 ) + 1 ) + 1 ) + 1", 9);
        worth("1 + ( 1 + ( 1 + ( 1 + ( 1 ) ) ) )", 5);
        landFault(5, "dowry 1 + ( 1 + ( 1 + ( 1 + ( 1 + ( ^1 ) ) ) ) ) ;");
        worth("1 or 0 < 1 + 2 * ( 1 or 0 < 1 + 2 * ( 1 or 0 < 1 + 2 * ( 1 or 0 < 1 + 2 * ( 1 or 0 < 1 + 2 * 3 ) ) ) )",
                1);
    }

    /** The core within so many of not (0) and brackets (1), the first one outermost. */
    private static String wrapped(int set, int many, String core) {
        StringBuilder head = new StringBuilder();
        StringBuilder tail = new StringBuilder();
        for (int i = 0; i < many; i++) {
            boolean bracket = (set >> i & 1) != 0;
            head.append(bracket ? "( " : "not ");
            tail.append(bracket ? ") " : "");
        }
        return head + core + " " + tail;
    }

    /** Six deep: the sixth opener is the PART that lies within five. */
    private static String wrappedBehind(int set) {
        String all = wrapped(set, 6, "1");
        int at = 0;
        for (int i = 0; i < 5; i++) {
            at += (set >> i & 1) != 0 ? 2 : 4;
        }
        return all.substring(0, at) + "^" + all.substring(at);
    }

    private void facts() {
        say.says(0, "Facts: flow (at the mouth in this season)");
        String land = "river a brook from 20 to 10 place 0 water 7 8 9 0 ; river b brook from 30 to 0 place 15 "
                + "water 3 3 3 3 ; river c brook from 40 to 30 place 0 water 50 40 30 20 ; ";
        for (int season = 0; season < 4; season++) {
            RiverVows x = say.told(land + "dowry flow ;");
            if (season > 0) {
                x.seasons(season);
            }
            say.due("flow in season " + season, x.wed(0, 1), new int[] {7, 8, 9, 0}[season]);
        }
        RiverVows y = say.told("river a clear from 50 to 10 place 0 water 7 8 9 0 ; river b brook from 60 to 0 place 15 "
                + "water 3 3 3 3 ; river c brook from 60 to 30 place 0 water 50 40 30 20 ; dowry flow ;");
        y.wed(2, 0);
        say.due("all of a clear one's at its mouth", y.wed(0, 1), 57);
        say.says(0, "fall (from the spring to the mouth)");
        say.due("fall 1", say.told("river a brook from 2 to 1 place 0 water 7 8 9 0 ; river b brook from 30 to 0 "
                + "place 15 water 3 3 3 3 ; dowry fall ;").wed(0, 1), 1);
        say.due("fall 99", say.told("river a brook from 99 to 0 place 0 water 7 8 9 0 ; river b brook from 30 to 0 "
                + "place 15 water 3 3 3 3 ; dowry fall ;").wed(0, 1), 99);
        say.says(0, "in dowry also near (how near kin both are, 99: none), dig (the DIGGING).");
        worth("near", 99);
        worth("dig", 19);
        RiverVows kin = say.told("river a brook from 20 to 10 place 0 water 7 8 9 0 ; river b brook from 30 to 0 place "
                + "0 water 3 3 3 3 of a ; dowry near * 10 + dig ;");
        say.due("near 1, dig 0", kin.wed(0, 1), 10);
        landFault(1, "silt ^near ;");
        landFault(1, "silt flow + ^dig ;");
        good("dowry near + dig + flow + fall ; silt flow + fall ;");
    }

    private void truth() {
        say.says(0, "Of not, and, or, < and = comes 1 or 0; what is not 0 is so");
        worth("not 7", 0);
        worth("not ( 0 - 7 )", 0);
        worth("not 0", 1);
        worth("5 and 0 - 5", 1);
        worth("0 - 5 or 0", 1);
        worth("0 or 0", 0);
        worth("7 and 0", 0);
        worth("( 7 or 7 ) + ( 7 and 7 ) + ( 1 < 7 ) + ( 7 = 7 )", 4);
        worth("0 - 1 < 0", 1);
        worth("0 < 0 - 1", 0);
        say.says(0, "ints wrap.");
        // 9999 * 9999 * 43 is 4299140043, by 4294967296 too much
        worth("9999 * 9999 * 43 = 417 * 9999 + 3164", 1);
        worth("9999 * 9999 * 43", 99);
        // 65536 * 65536 is 0, and 65536 * 32768 the least int
        worth("256 * 256 * 256 * 256", 0);
        worth("256 * 256 * 256 * 128 < 0", 1);
        worth("256 * 256 * 256 * 128 - 1 < 0", 0);
        worth("256 * 256 * 256 * 128", 0);
        worth("256 * 256 * 256 * 128 - 1", 99);
        say.says(0, "Without dowry: 1; without silt: 0.");
        RiverVows x = say.told("river a brook from 20 to 10 place 0 water 7 1 1 1 ; "
                + "river b brook from 30 to 0 place 15 water 3 3 3 3 ;");
        say.due("without dowry", x.wed(0, 1), 1);
        for (int i = 0; i < 6; i++) {
            say.due("long ones", Saying.land(x, "dowry 7" + "+0".repeat(225) + ";silt 7" + "+0".repeat(225) + ";"), 0);
        }
        for (int i = 0; i < 100; i++) {
            say.due("an empty land", x.land(), 0);
        }
        say.due("a land without them", Saying.land(x, "river a brook from 20 to 10 place 0 water 7 1 1 1 ; "
                + "river b brook from 30 to 0 place 15 water 3 3 3 3 ;"), 0);
        say.due("without dowry, behind long ones", x.wed(0, 1), 1);
        x.seasons(100);
        say.due("without silt", x.river(0, 7) + x.river(1, 7), 0);
        RiverVows y = say.told("silt 7 ;");
        for (int i = 0; i < 100; i++) {
            say.due("an empty land", x.land() + y.land(), 0);
        }
        Saying.land(y, "river a brook from 20 to 10 place 0 water 7 1 1 1 ; ");
        y.seasons(1);
        say.due("without silt, behind many lands", y.river(0, 7), 0);
    }

    // ---- faults

    private void faultPlaces() {
        say.says(0, "FAULTS, kind + 16 * the place (from 0) of a token, the end being one at the text's length");
        landFault(1, "^!");
        landFault(1, " ^!");
        landFault(1, "\n\n ^!");
        landFault(4, "kin ^10 ;");
        landFault(4, "kin\n\n   ^10 ;");
        landFault(1, "kin^");
        landFault(1, "kin ^");
        landFault(1, "kin \n ^");
        landFault(1, "kin 1^");
        landFault(1, "dowry^");
        landFault(1, "dowry ( 1^");
        vowsFault(1, "season   ^");
        willFault(1, "heir\n^");
        landFault(1, " ".repeat(997) + "kin^");
        say.says(0, "of the first token from the left that is wrong the least");
        landFault(4, "kin ^10 ; kin 1 ; ! dead");
        landFault(1, "kin 1 ^! ; kin 10");
        landFault(3, "kin 1 ; ^kin 10 ;");
        landFault(5, rivers(6) + "^river ra dead");
        landFault(2, AA + "river b brook from 9 to 2 place 1 water 1 2 3 4 of ^b ! ;");
        vowsFault(2, "wed ^cc cc ;");
        vowsFault(1, "season ; ".repeat(24) + "^aa ;");
        vowsFault(1, "season ; ".repeat(24) + "^! ;");
        vowsFault(1, "season ; ".repeat(24) + "^; ;");
        willFault(1, "heir 1 ; ".repeat(6) + "^season ;");
        landFault(1, ranges(4) + "^ranges 1");
        landFault(1, rivers(6) + "^brook");
        landFault(1, "silt not not not not not ^dig ;");
    }

    private void faultKinds() {
        say.says(0, "1 it is none, or can't stand there");
        landFault(1, "^~");
        landFault(1, "^wed aa aa ;");
        landFault(1, "^heir 1 ;");
        vowsFault(1, "^kin 1 ;");
        vowsFault(1, "^heir 1 ;");
        willFault(1, "^kin 1 ;");
        willFault(1, "^season ;");
        say.says(0, "2 a NAME of no RIVER (behind of, wed, part)");
        landFault(2, AA + "river b brook from 9 to 2 place 1 water 1 2 3 4 of ^cc ;");
        landFault(2, AA + "river b brook from 9 to 2 place 1 water 1 2 3 4 of ^a ;");
        vowsFault(2, "wed ^cc aa ;");
        vowsFault(2, "wed aa ^cc ;");
        vowsFault(2, "part ^cc ;");
        vowsFault(2, "part ^flow ;");
        say.due("no river at all", Saying.vows(fresh(), "part aa ;"), 2 + 16 * 5);
        say.says(0, "3 a NAME told already, a place of a range told already, the second NAME of wed that is the first "
                + "one, kin, storm, dowry, silt a second time");
        landFault(3, AA + "river ^aa !");
        landFault(3, "range 99 thick 1 ; range ^99 !");
        vowsFault(3, "wed aa ^aa !");
        vowsFault(3, "wed bb ^bb ;");
        for (String law : new String[] {"kin 0 ; ", "storm 0 by 0 ; ", "dowry 0 ; ", "silt 0 ; "}) {
            landFault(3, law + "^" + law.substring(0, law.indexOf(' ')) + " !");
        }
        RiverVows x = say.told(AA + BB);
        say.due("two lines alike are none too many", Saying.vows(x, "wed aa bb ; wed aa bb ; part aa ; part aa ;"), 0);
        say.due("two heirs alike", Saying.will(x, "heir 5 ; heir 5 ;"), 0);
        say.says(0, "4 a NUMBER that is not as told");
        landFault(4, "range ^100 thick 1 ;");
        landFault(4, "storm ^11 by 1 ;");
        landFault(4, "storm 10 by ^100 ;");
        willFault(4, "heir ^100 ;");
    }

    private void tooMany() {
        say.says(0, "5 one too many: the words river of a seventh, range of a fifth, heir of a seventh, the first word "
                + "of a 25th line of VOWS");
        landFault(5, rivers(6) + ranges(4) + "^river");
        landFault(5, rivers(6) + ranges(4) + "^range");
        willFault(5, "heir 0 ; ".repeat(6) + "^heir");
        vowsFault(5, "season ; ".repeat(24) + "^wed");
        vowsFault(5, "season ; ".repeat(24) + "^part");
        vowsFault(5, "season ; ".repeat(24) + "^season");
        say.says(0, "not, or a PART, within 5 others.");
        landFault(5, "silt not not not not not ^not");
        landFault(5, "silt ( ( ( ( ( ^not");
        landFault(5, "silt ( ( ( ( ( ^(");
        landFault(5, "silt ( not ( not ( ^0");
        landFault(1, "silt ( ( ( ( ( ^)");
    }

    private void newLand() {
        RiverVows x = Snapshot.busy();
        say.says(0, "Without a FAULT a LAND is the LAND from then on: season 0, nobody wed, nothing owed, no silt, no "
                + "VOWS, no WILL, nothing TOLD, nothing can be undone, no MARK is there.");
        say.due("busy: passed", x.count(2), 5);
        say.due("busy: wed", x.count(3), 2);
        say.due("busy: undoable", x.count(8), 7);
        say.due("the land again", Saying.land(x, Snapshot.LAND), 0);
        RiverVows first = say.told(Snapshot.LAND);
        say.due("all as in a new object", Snapshot.of(x), Snapshot.of(first));
        say.due("nothing to undo", x.undo(), false);
        for (int mark = 0; mark < 4; mark++) {
            say.due("mark " + mark, x.mark(mark, true), false);
        }
        RiverVows bare = Snapshot.busy();
        say.due("an empty land", Saying.land(bare, ""), 0);
        say.due("all as in a new object", Snapshot.of(bare), Snapshot.of(fresh()));
        RiverVows again = fresh();
        String other = "river zz proud from 9 to 2 place 1 water 1 2 3 4 mill 1 at 2 town 1 at 2 ; range 1 thick 1 ; kin 5 ; "
                + "storm 5 by 5 ; dowry 5 ; silt 5 ; ";
        for (String text : new String[] {other, other + "!", other + ranges(4), other, Snapshot.LAND}) {
            Saying.land(again, text);
        }
        say.due("nothing of lands and faults before", Snapshot.of(again), Snapshot.of(first));
        Saying.land(again, other);
        Saying.land(again, "!");
        Saying.land(again, "");
        say.due("nothing of lands and faults before", Snapshot.of(again), Snapshot.of(fresh()));
        say.says(0, "VOWS, a WILL are these.");
        RiverVows y = say.told(AA + BB);
        Saying.vows(y, "season ; season ; season ;");
        Saying.vows(y, "part aa ;");
        say.due("the last vows", y.count(4), 1);
        say.due("the last vows", y.judged(0), 0);
        Saying.will(y, "heir 5 ; heir 6 ; heir 7 ;");
        Saying.will(y, "heir 1 ;");
        say.due("the last will", y.count(5), 1);
        say.due("the last will", y.share(1, 0, 0), 1);
        say.says(0, "At first: nothing.");
        int[] due = {0, 0, 0, 0, 0, -1, 0, 0, 0, 0};
        for (int what = 0; what < 10; what++) {
            say.due("count(" + what + ")", fresh().count(what), due[what]);
        }
    }

    // ---- promises 2 to 5

    private void promises() {
        say.says(2, "Up to 24 signs come behind the TAPE: the bytes of a, b, c, of each the highest first");
        for (int at = 0; at < 24; at++) {
            long[] three = {0x2020202020202020L, 0x2020202020202020L, 0x2020202020202020L};
            three[at / 8] += 1L << 56 - 8 * (at % 8);
            RiverVows x = fresh();
            say.due("24 signs", x.feed(three[0], three[1], three[2]), 24);
            say.due("a ! at " + at, x.land(), 1 + 16 * at);
        }
        RiverVows behind = fresh();
        behind.feed(0, 0, 0x6B69);
        say.due("behind the tape", behind.feed(0, 0, 0x6E20373BL), 6);
        say.due("kin 7;", behind.land(), 0);
        say.due("kin 7;", behind.count(7), 7);
        say.says(2, "others than 10 and 32 .. 126, and what is beyond 1,000, are left out: how many there are.");
        RiverVows y = fresh();
        say.due("nothing", y.feed(0, 0, 0), 0);
        say.due("others", y.feed(-1L, Long.MIN_VALUE, 0x090B0C0D1F7F80FFL), 0);
        say.due("the least and the most long", y.feed(Long.MAX_VALUE, Long.MIN_VALUE, Long.MAX_VALUE), 0);
        say.due("among others", y.feed(0x0A001F207E7F0000L, 0, 0), 3);
        Saying.feed(y, " ".repeat(990));
        say.due("993", y.count(9), 993);
        say.due("seven of eight", y.feed(0x2020202020202020L, 0, 0), 1000);
        say.due("full", y.feed(0x2020202020202020L, 0, 0), 1000);
        say.due("full, nothing comes", y.feed(0, 0, 0), 1000);
        faultLeavesAll();
    }

    private void faultLeavesAll() {
        String before = Snapshot.of(Snapshot.busy());
        say.says(3, "The TAPE is read as a LAND: 0, or its FAULT (all stays then).");
        for (String text : new String[] {"!", "kin 5 ; kin", "range 7 thick 5 ; " + AA + BB + "dowry 5 ; silt 5 ; !"}) {
            RiverVows x = Snapshot.busy();
            say.due("a fault", Saying.land(x, text) > 0, true);
            say.due("all stays", Snapshot.of(x), before);
            say.due("what can be undone stays", x.undo(), true);
            say.due("marks stay", x.mark(2, true), true);
            say.due("a land", Saying.land(x, "kin 4 ;"), 0);
            say.due("the land from then on", x.count(7), 4);
        }
        say.says(4, "The TAPE is read as VOWS, likewise.");
        for (String text : new String[] {"!", "season ; season", "season ; ".repeat(25), "wed a a ;", "part zz ;"}) {
            RiverVows x = Snapshot.busy();
            say.due("a fault", Saying.vows(x, text) > 0, true);
            say.due("all stays", Snapshot.of(x), before);
        }
        RiverVows x = Snapshot.busy();
        say.due("vows", Saying.vows(x, "season ; ".repeat(7)), 0);
        say.due("vows alone are others", Snapshot.of(x).equals(before), false);
        say.due("vows are nothing to undo", x.count(8), 7);
        say.says(5, "The TAPE is read as a WILL, likewise.");
        for (String text : new String[] {"!", "heir 5 ; heir", "heir 1 ; ".repeat(7), "heir 100 ;"}) {
            RiverVows y = Snapshot.busy();
            say.due("a fault", Saying.will(y, text) > 0, true);
            say.due("all stays", Snapshot.of(y), before);
        }
        RiverVows y = Snapshot.busy();
        say.due("a will", Saying.will(y, "heir 5 ;"), 0);
        say.due("the will", y.count(5), 1);
        say.due("a will is nothing to undo", y.count(8), 7);
    }
}
