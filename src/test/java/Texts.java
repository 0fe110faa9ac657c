/** Lines of lands. */
final class Texts {
    private Texts() { }

    static String river(String name, String kind, int from, int to, int place, String water, String rest) {
        return "river " + name + " " + kind + " from " + from + " to " + to + " place " + place + " water " + water + " "
                + rest + " ; ";
    }

    static String brook(String name, int from, int to, int place, String water) {
        return river(name, "brook", from, to, place, water, "");
    }

    /** A brook at place 0 that has the same water in each season. */
    static String even(String name, int from, int to, int water, String rest) {
        return river(name, "brook", from, to, 0, always(water), rest);
    }

    static String always(int water) {
        return water + " " + water + " " + water + " " + water;
    }
}
