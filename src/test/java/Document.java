import java.io.IOException;
import java.nio.file.Files;
import java.nio.file.Path;
import java.util.ArrayList;
import java.util.List;
import java.util.regex.Matcher;
import java.util.regex.Pattern;

/** The document's terms and promises, and which of their words no test has quoted. */
final class Document {
    private static final Path FILE = Path.of("../shared/DOC.md");
    private static final int PROMISES = 36;

    private final List<String> sections = new ArrayList<>();

    private Document(String text) {
        sections.add(plain(part(text, "## Terms\n", "\nThe constants:")));
        for (int i = 1; i <= PROMISES; i++) {
            String all = part(text, "## Promise " + i + ": ", "\n## ");
            sections.add(plain(all.replaceFirst("(?s)^.*?`[^`]*`: ", "")));
        }
    }

    /** Null where there is no document. */
    static Document read() throws IOException {
        return Files.exists(FILE) ? new Document(Files.readString(FILE)) : null;
    }

    private static String part(String text, String from, String to) {
        int start = text.indexOf(from);
        int end = text.indexOf(to, start + 1);
        return start < 0 || end < 0 ? "" : text.substring(start + from.length(), end);
    }

    private static String plain(String text) {
        return text.replaceAll("```(text)?|==== \\d\\.", " ").replaceAll("\\s+", " ").trim();
    }

    /** Quotes that stand nowhere in their section, and what of each section is in no quote. */
    List<String> open(List<Integer> where, List<String> quotes) {
        List<String> open = new ArrayList<>();
        List<boolean[]> held = new ArrayList<>();
        for (String section : sections) {
            held.add(new boolean[section.length()]);
        }
        for (int i = 0; i < quotes.size(); i++) {
            String words = plain(quotes.get(i));
            String section = sections.get(where.get(i));
            int at = section.indexOf(words);
            if (at < 0) {
                open.add(where.get(i) + ": no such words: " + words);
            }
            for (int k = at; at >= 0 && k < at + words.length(); k++) {
                held.get(where.get(i))[k] = true;
            }
        }
        for (int i = 0; i < sections.size(); i++) {
            addUnheld(i, held.get(i), open);
        }
        return open;
    }

    private void addUnheld(int section, boolean[] held, List<String> open) {
        StringBuilder left = new StringBuilder();
        for (int k = 0; k < held.length; k++) {
            left.append(held[k] ? '|' : sections.get(section).charAt(k));
        }
        Matcher words = Pattern.compile("[^|]*[A-Za-z0-9][^|]*").matcher(left);
        while (words.find()) {
            open.add(section + ": no test quotes: " + words.group());
        }
    }
}
