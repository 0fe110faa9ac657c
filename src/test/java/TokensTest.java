/** Every token at every place of a text, in place of another one, ahead of it, or none: faults as in the plain model. */
final class TokensTest {
    private static final String LAND = "river aa brook from 9 to 2 place 1 water 1 2 3 4 mill 3 at 4 town 5 at 6 ; "
            + "river bb clear from 20 to 10 place 7 water 5 6 7 8 town 0 at 20 of aa ; range 5 thick 6 ; range 6 thick 5 ; "
            + "kin 1 ; storm 2 by 3 ; dowry not ( flow + 2 * ( fall - near < dig ) and 1 = 1 or not not 0 ) ; silt flow - 5 ; ";
    private static final String FULL = "river ra brook from 9 to 2 place 1 water 1 2 3 4 ; ".repeat(6)
            + "range 1 thick 1 ; range 2 thick 1 ; range 3 thick 1 ; range 4 thick 1 ; silt ( not ( ( 1 ) ) ) ; ";
    private static final String VOWS = "wed aa bb ; part aa ; season ; wed bb aa ; " + "season ; ".repeat(19) + "wed aa bb ; ";
    private static final String WILL = "heir 0 ; heir 99 ; heir 1 ; heir 2 ; heir 3 ; heir 4 ; ";
    private static final String[] TOKENS = ("river from to place water mill town at of range thick kin storm by dowry silt wed part "
            + "season heir brook proud clear salt not and or flow fall near dig aa bb zz ra abcdefgh abcdefghi ( ) < = + - * ; "
            + "0 1 2 3 4 5 6 7 9 10 11 20 21 99 100 999 1000 9999 10000 ! A ' \"").split(" ");

    private static int wrong = 0;
    private static int right = 0;

    private TokensTest() { }

    public static void main(String[] args) {
        String full = FULL;
        for (char name = 'b'; name <= 'f'; name++) {
            int at = full.lastIndexOf("river ra ");
            full = full.substring(0, at) + "river r" + name + full.substring(at + 8);
        }
        spoil(LAND, 'l');
        spoil(full, 'l');
        spoil(VOWS, 'v');
        spoil(WILL, 'w');
        System.out.println("TokensTest: " + right + " texts as due, " + wrong + " not");
        System.exit(wrong == 0 ? 0 : 1);
    }

    private static void spoil(String text, char kind) {
        String[] tokens = text.trim().split(" ");
        Pair pair = new Pair();
        hold(pair, text, kind, true);
        for (int i = 0; i <= tokens.length; i++) {
            for (String token : TOKENS) {
                hold(pair, joined(tokens, i, token, true), kind, false);
                hold(pair, joined(tokens, i, token, false), kind, false);
            }
            hold(pair, joined(tokens, i, "", true), kind, false);
        }
    }

    /** The text with a token put in place of the i-th one, or ahead of it. */
    private static String joined(String[] tokens, int i, String token, boolean instead) {
        StringBuilder text = new StringBuilder();
        for (int k = 0; k < tokens.length; k++) {
            text.append(k == i ? token + " " : "").append(k == i && instead ? "" : tokens[k] + " ");
        }
        return text.append(i == tokens.length ? token : "").toString();
    }

    private static void hold(Pair pair, String text, char kind, boolean good) {
        if (pair.calls > 300) {
            pair.renew();
        }
        Saying.feed(pair.is, text);
        pair.feedDue(text);
        pair.calls += 45;
        int got = kind == 'l' ? pair.is.land() : kind == 'v' ? pair.is.vows() : pair.is.will();
        int want = kind == 'l' ? pair.due.land() : kind == 'v' ? pair.due.vows() : pair.due.will();
        if (got == want && (want == 0 || !good)) {
            right++;
        } else {
            wrong++;
            System.out.println(kind + ": " + text + " answered " + got + ", due is " + want);
        }
    }

    /** A program and the plain model, both with a land of two rivers. */
    private static final class Pair {
        private RiverVows is;
        private Plain due;
        private int calls;

        Pair() {
            renew();
        }

        private void renew() {
            is = new RiverVows();
            due = new Plain();
            calls = 0;
            Saying.land(is, LAND);
            feedDue(LAND);
            due.land();
        }

        private void feedDue(String text) {
            for (char sign : text.toCharArray()) {
                due.feed(sign, 0, 0);
            }
        }
    }
}
