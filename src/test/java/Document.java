import java.io.IOException;
import java.nio.file.Files;
import java.nio.file.Path;
import java.util.BitSet;
import java.util.HashMap;
import java.util.Map;

/** The text of DOC.md, and which of its words some test has quoted. */
final class Document {
    private static final Path DOC = Path.of("../shared/DOC.md");

    private final Map<String, String> texts = new HashMap<>();
    private final Map<String, BitSet> quoted = new HashMap<>();

    Document() {
        for (String part : read().split("(?m)^## ")) {
            int titleEnd = part.indexOf('\n');
            String title = part.substring(0, titleEnd).trim();
            texts.put(title, plain(part.substring(titleEnd)));
            quoted.put(title, new BitSet());
        }
    }

    private static String read() {
        try {
            return Files.readString(DOC);
        } catch (IOException e) {
            throw new IllegalStateException("no document at " + DOC, e);
        }
    }

    private static String plain(String text) {
        return text.replaceAll("(?m)^```.*$", "").replace("`", "").replaceAll("\\s+", " ").trim();
    }

    /** Marks the words of the quote; false if they don't stand in the section, or stand there twice. */
    boolean quote(String section, String words) {
        String text = texts.getOrDefault(section, "");
        int at = text.indexOf(words);
        if (at < 0 || text.indexOf(words, at + 1) >= 0) {
            return false;
        }
        quoted.get(section).set(at, at + words.length());
        return true;
    }

    /** The words of the section that no quote has. */
    String notQuoted(String section) {
        String text = texts.getOrDefault(section, "(no such section)");
        BitSet marks = quoted.getOrDefault(section, new BitSet());
        StringBuilder rest = new StringBuilder();
        for (int i = 0; i < text.length(); i++) {
            rest.append(marks.get(i) ? ' ' : text.charAt(i));
        }
        return rest.toString().replaceAll("\\s+", " ").trim();
    }
}
