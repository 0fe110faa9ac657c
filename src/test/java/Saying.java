import java.nio.charset.StandardCharsets;

/** Feeds texts to a program and counts what is not as due. */
final class Saying {
    private int right = 0;
    private int wrong = 0;

    /** A new program with the land told, which must be without a fault. */
    RiverVows told(String land) {
        RiverVows x = new RiverVows();
        due("land: " + land, land(x, land), 0);
        return x;
    }

    static void feed(RiverVows x, String text) {
        byte[] bytes = text.getBytes(StandardCharsets.ISO_8859_1);
        for (int at = 0; at < bytes.length; at += 24) {
            long[] three = new long[3];
            for (int i = 0; i < 24; i++) {
                three[i / 8] = three[i / 8] << 8 | (at + i < bytes.length ? bytes[at + i] & 255 : 0);
            }
            x.feed(three[0], three[1], three[2]);
        }
    }

    static int land(RiverVows x, String text) {
        feed(x, text);
        return x.land();
    }

    static int vows(RiverVows x, String text) {
        feed(x, text);
        return x.vows();
    }

    static int will(RiverVows x, String text) {
        feed(x, text);
        return x.will();
    }

    void due(String call, long got, long want) {
        if (got == want) {
            right++;
        } else {
            wrong++;
            System.out.println(call + " answered " + got + ", due is " + want);
        }
    }

    void due(String call, boolean got, boolean want) {
        due(call, got ? 1 : 0, want ? 1 : 0);
    }

    void end(String name) {
        System.out.println(name + ": " + right + " answers as due, " + wrong + " not");
        System.exit(wrong == 0 ? 0 : 1);
    }
}
