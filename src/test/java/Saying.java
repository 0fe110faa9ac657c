import java.nio.charset.StandardCharsets;
import java.util.ArrayList;
import java.util.List;

/** Feeds texts to a program and counts what is not as due. */
final class Saying {
    /** The section of the document that a quote stands in (0: the terms) and the quote, by turns. */
    final List<Integer> sections = new ArrayList<>();
    final List<String> quotes = new ArrayList<>();
    private String quote = "";
    private int right = 0;
    private int wrong = 0;

    /** What follows holds these words of a promise (0: of the terms). */
    void says(int promise, String words) {
        sections.add(promise);
        quotes.add(words);
        quote = "[" + words + "] ";
    }

    /** A new program with the land told, which must be without a fault. */
    RiverVows told(String land) {
        RiverVows x = new RiverVows();
        due("land: " + land, land(x, land), 0);
        return x;
    }

    static void feed(RiverVows x, String text) {
        byte[] bytes = text.getBytes(StandardCharsets.ISO_8859_1);
        for (int at = 0; at < bytes.length; at += 24) {
            long[] three = new long[3];
            for (int i = 0; i < 24; i++) {
                three[i / 8] = three[i / 8] << 8 | (at + i < bytes.length ? bytes[at + i] & 255 : 0);
            }
            x.feed(three[0], three[1], three[2]);
        }
    }

    static int land(RiverVows x, String text) {
        feed(x, text);
        return x.land();
    }

    static int vows(RiverVows x, String text) {
        feed(x, text);
        return x.vows();
    }

    static int will(RiverVows x, String text) {
        feed(x, text);
        return x.will();
    }

    void due(String call, long got, long want) {
        if (got == want) {
            right++;
        } else {
            wrong++;
            System.out.println(quote + call + " answered " + got + ", due is " + want);
        }
    }

    void due(String call, boolean got, boolean want) {
        due(call, got ? 1 : 0, want ? 1 : 0);
    }

    /** Both texts are what many calls answered. */
    void due(String call, String got, String want) {
        if (!got.equals(want)) {
            System.out.println("got  " + got + "\nwant " + want);
        }
        due(call, got.equals(want), true);
    }

    void end(String name) {
        System.out.println(name + ": " + right + " answers as due, " + wrong + " not");
        System.exit(wrong == 0 ? 0 : 1);
    }
}
