import java.io.IOException;
import java.nio.file.Files;
import java.nio.file.Path;
import java.util.ArrayList;
import java.util.BitSet;
import java.util.LinkedHashMap;
import java.util.List;
import java.util.Map;

/** The document, cut into its sections, and which of their words a test has quoted. */
final class Document {
    private static final String TERMS = "Terms";
    private static final String WHAT_IT_IS = "What it is";

    private final Map<String, String> sections = new LinkedHashMap<>();
    private final Map<String, BitSet> quoted = new LinkedHashMap<>();

    Document(Path file) throws IOException {
        for (String part : Files.readString(file).split("\n## ")) {
            String title = part.lines().findFirst().orElse("");
            String name = title.startsWith("Promise") ? title.substring(0, title.indexOf(':')) : title;
            sections.put(name, plain(part.substring(title.length())));
            quoted.put(name, new BitSet());
        }
    }

    /** One blank between words; the signature ahead of a promise and the marks of parts are no sentences. */
    private static String plain(String text) {
        return text.replace("```text", "").replace("```", "").replaceAll("==== \\d\\.", "")
                .replaceAll("(?m)^`[^`]*`:", "").replaceAll("\\s+", " ");
    }

    /** Whether the words stand in the promise or, if not there, in what all promises share. */
    boolean quote(int promise, String words) {
        return quoteIn("Promise " + promise, words) || quoteIn(TERMS, words) || quoteIn(WHAT_IT_IS, words);
    }

    private boolean quoteIn(String name, String words) {
        String text = sections.getOrDefault(name, "");
        boolean found = false;
        for (int at = text.indexOf(words); at >= 0; at = text.indexOf(words, at + 1)) {
            quoted.get(name).set(at, at + words.length());
            found = true;
        }
        return found;
    }

    /** What no test has quoted of the Terms and the promises, each piece behind its section's name. */
    List<String> unquoted() {
        List<String> pieces = new ArrayList<>();
        for (String name : sections.keySet()) {
            if (name.equals(TERMS) || name.startsWith("Promise ")) {
                addUnquoted(name, pieces);
            }
        }
        return pieces;
    }

    private void addUnquoted(String name, List<String> pieces) {
        String text = sections.get(name);
        BitSet marks = quoted.get(name);
        for (int from = marks.nextClearBit(0); from < text.length();) {
            int to = marks.nextSetBit(from);
            to = to < 0 ? text.length() : to;
            String piece = text.substring(from, to).trim();
            // A joining word alone says nothing of its own.
            if (piece.matches(".*\\w.*") && !piece.matches("\\W*(and|or)\\W*")) {
                pieces.add(name + ": " + piece);
            }
            from = marks.nextClearBit(to);
        }
    }

    int promises() {
        return (int) sections.keySet().stream().filter(name -> name.startsWith("Promise ")).count();
    }
}
