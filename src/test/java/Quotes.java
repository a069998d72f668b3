import java.io.IOException;
import java.nio.file.Files;
import java.nio.file.Path;
import java.util.ArrayList;
import java.util.LinkedHashMap;
import java.util.List;
import java.util.Map;

/**
 * The document's passages (the paragraphs of its terms and its promises), and what tests quote of them: each passage
 * has to be quoted whole and in its order, so that no sentence is without a test.
 */
final class Quotes {
    private static final Path DOCUMENT = Path.of("../shared/DOC.md");

    /** By the number of a promise, or by a term's own words. */
    private final Map<String, String> passages = new LinkedHashMap<>();
    private final Map<String, String> quoted = new LinkedHashMap<>();

    Quotes() throws IOException {
        String part = "";
        for (String line : Files.readAllLines(DOCUMENT)) {
            String words = line.trim();
            if (words.startsWith("## ")) {
                part = words.substring(3);
            } else if (part.startsWith("Promise ") && words.startsWith("`")) {
                passages.put(part.replaceAll("\\D", ""), words.substring(words.indexOf("`: ") + 3));
            } else if (part.equals("Terms") && isTerm(words)) {
                passages.put(words, words);
            }
        }
    }

    /** What the interface says ahead of calls is how it is printed, and no term. */
    private static boolean isTerm(String words) {
        return !words.isEmpty() && !words.startsWith("```") && !words.startsWith("Ahead of the calls");
    }

    /** The next words of a passage, which is told by its number or by how it begins. */
    void quote(String passage, String words) {
        String key = passage;
        for (String each : passages.keySet()) {
            if (!passages.containsKey(passage) && each.startsWith(passage)) {
                key = each;
            }
        }
        quoted.merge(key, words, (before, more) -> before + " " + more);
    }

    /** A text for each passage that isn't quoted as the document has it. */
    List<String> gaps() {
        List<String> gaps = new ArrayList<>();
        for (Map.Entry<String, String> e : passages.entrySet()) {
            String got = quoted.remove(e.getKey());
            if (!e.getValue().equals(got)) {
                gaps.add("quoted is\n  " + got + "\nthe document has\n  " + e.getValue());
            }
        }
        for (String passage : quoted.keySet()) {
            gaps.add("the document has no passage " + passage);
        }
        return gaps;
    }
}
