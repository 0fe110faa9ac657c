import java.util.NoSuchElementException;

/** What a program answers to many questions, as a text: to see that nothing has changed. */
final class Snapshot {
    static final String LAND = "river a brook from 60 to 20 place 10 water 8 4 2 6 mill 5 at 30 ; "
            + "river b brook from 50 to 5 place 30 water 20 10 10 20 mill 12 at 10 town 40 at 8 ; "
            + "river c clear from 40 to 0 place 60 water 9 8 7 6 town 30 at 0 of a ; "
            + "range 20 thick 7 ; range 45 thick 30 ; kin 0 ; dowry flow + dig ; silt flow - 5 ; storm 2 by 10 ;";

    private Snapshot() { }

    /** Two wed, five seasons passed, vows, a will, one told, two marks. */
    static RiverVows busy() {
        RiverVows x = new RiverVows();
        Saying.land(x, LAND);
        Saying.vows(x, "wed a b ; season ; wed b a ; part a ;");
        x.mark(0, false);
        x.wed(0, 1);
        x.seasons(5);
        Saying.will(x, "heir 3 ; heir 2 ;");
        x.tell(2, 0, 9);
        x.mark(2, false);
        x.wed(1, 2);
        return x;
    }

    /** Some hundred calls. */
    static String of(RiverVows x) {
        StringBuilder text = new StringBuilder();
        for (int what = 0; what < 10; what++) {
            text.append(x.count(what)).append(' ');
        }
        for (int r = 0; r < 3; r++) {
            for (int what = 0; what < 9; what++) {
                text.append(river(x, r, what)).append(' ');
            }
            text.append(x.flow(r, 20, 0)).append(' ').append(x.may(r)).append(' ').append(x.love(r)).append(' ');
            text.append(x.hyphen(r)).append(' ').append(x.share(r, 1, 0)).append(' ').append(x.worn(0, r));
            text.append(' ').append(x.walls(r, 0, 50000)).append("; ");
        }
        for (int what = 0; what < 3; what++) {
            text.append(x.needs(what)).append(' ').append(x.judged(what)).append(' ').append(x.match(what)).append(' ');
            text.append(x.found(what)).append(' ').append(x.centuries(7, 50, what)).append("; ");
        }
        return text.append(x.peace()).append(' ').append(x.ends()).append(' ').append(x.eddies()).append(' ')
                .append(x.cathedral(1)).append(' ').append(x.dams(0, 1, 1)).append(' ').append(x.chain(0, 2, 0)).toString();
    }

    private static String river(RiverVows x, int river, int what) {
        try {
            return String.valueOf(x.river(river, what));
        } catch (NoSuchElementException e) {
            return "none";
        }
    }
}
