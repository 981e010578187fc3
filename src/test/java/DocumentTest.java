import java.io.IOException;
import java.nio.file.Files;
import java.nio.file.Path;
import java.util.ArrayList;
import java.util.HashSet;
import java.util.LinkedHashMap;
import java.util.List;
import java.util.Map;
import java.util.Set;

/**
 * That the sentences which are tested are the document's, word for word, under the heading that is named,
 * and that "What it is", "Terms" and the promises hold no word beside them.
 */
public final class DocumentTest {
    /** What stands between sentences and promises nothing. */
    private static final String[] NO_PROMISE = {"The constants:"};

    public static void main(String[] args) throws IOException {
        Due due = new Due();
        Map<String, String> parts = parts(Files.readString(Path.of(args[1])));
        Map<String, boolean[]> covered = new LinkedHashMap<>();
        for (Map.Entry<String, String> part : parts.entrySet()) {
            covered.put(part.getKey(), new boolean[part.getValue().length()]);
        }
        Set<String> names = new HashSet<>();
        for (Sentence sentence : Sentences.all()) {
            due.holds(sentence.name() + " is there once", names.add(sentence.name()));
            String text = parts.getOrDefault(sentence.where(), "");
            due.holds(sentence.name() + " stands in the document", text.contains(sentence.words()));
            cover(text, sentence.words(), covered.get(sentence.where()));
        }
        for (Map.Entry<String, String> part : parts.entrySet()) {
            for (String words : NO_PROMISE) {
                cover(part.getValue(), words, covered.get(part.getKey()));
            }
            List<String> left = left(part.getValue(), covered.get(part.getKey()));
            due.holds(part.getKey() + " is tested whole, but for " + left, left.isEmpty());
        }
        due.is("how many parts are tested", parts.size(), 15);
        due.end();
    }

    /** The parts that promise: the text under each heading, in one line, without the face of a call before it. */
    private static Map<String, String> parts(String document) {
        Map<String, String> parts = new LinkedHashMap<>();
        for (String part : document.split("(?m)^## ")) {
            String heading = part.lines().findFirst().orElse("").trim();
            if (heading.equals("What it is") || heading.equals("Terms") || heading.startsWith("Promise ")) {
                String text = part.substring(part.indexOf('\n') + 1).replaceAll("(?m)^```.*$", " ")
                    .replaceAll("\\s+", " ").trim();
                parts.put(heading, text.replaceFirst("^`[^`]*\\)`:", ""));
            }
        }
        return parts;
    }

    private static void cover(String text, String words, boolean[] covered) {
        for (int from = text.indexOf(words); from >= 0; from = text.indexOf(words, from + 1)) {
            for (int k = from; k < from + words.length(); k++) {
                covered[k] = true;
            }
        }
    }

    private static List<String> left(String text, boolean[] covered) {
        StringBuilder left = new StringBuilder();
        for (int k = 0; k < text.length(); k++) {
            left.append(covered[k] ? '\n' : text.charAt(k));
        }
        List<String> pieces = new ArrayList<>();
        for (String piece : left.toString().split("\n+")) {
            if (piece.matches(".*[A-Za-z0-9].*")) {
                pieces.add(piece.trim());
            }
        }
        return pieces;
    }
}
