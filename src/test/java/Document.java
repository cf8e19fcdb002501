import java.io.IOException;
import java.nio.file.Files;
import java.nio.file.Path;
import java.util.ArrayList;
import java.util.List;
import java.util.Map;
import java.util.TreeMap;
import java.util.regex.Matcher;
import java.util.regex.Pattern;

/** ../shared/DOC.md by its parts: "1" to "57" the promises, "T0" to "T8" Terms and its sections. */
final class Document {
    private final Map<String, String> parts = new TreeMap<>();
    private final Map<String, List<String>> quotes = new TreeMap<>();

    Document(Path file) throws IOException {
        String text = Files.readString(file);
        String[] chapters = text.split("(?m)^## ");
        for (String chapter : chapters) {
            Matcher promise = Pattern.compile("Promise (\\d+): .*\n").matcher(chapter);
            if (promise.lookingAt()) {
                String body = chapter.substring(promise.end()).trim();
                parts.put(promise.group(1), plain(body.substring(body.indexOf("`: ") + 3)));
            } else if (chapter.startsWith("Terms")) {
                terms(chapter.substring(0, chapter.indexOf("Ahead of the calls")));
            }
        }
    }

    private void terms(String chapter) {
        String[] sections = chapter.substring(5).split("(?m)^\\d\\. ");
        for (int i = 0; i < sections.length; i++) {
            parts.put("T" + i, plain(sections[i].replace("```text", "").replace("```", "")));
        }
    }

    private static String plain(String text) {
        return text.replaceAll("\\s+", " ").trim();
    }

    /** Says that a test is of these words of a part; 1 if they stand there. */
    int quote(String part, String words) {
        quotes.computeIfAbsent(part, p -> new ArrayList<>()).add(words);
        return parts.getOrDefault(part, "").contains(words) ? 1 : 0;
    }

    int size() {
        return parts.size();
    }

    /** Sentences, or parts of them up to a semicolon, that no test speaks of. */
    List<String> unquoted() {
        List<String> left = new ArrayList<>();
        for (Map.Entry<String, String> part : parts.entrySet()) {
            for (String piece : part.getValue().split("(?<=[^.])\\.(\\s|$)|;\\s")) {
                boolean isQuoted = quotes.getOrDefault(part.getKey(), List.of()).stream()
                    .anyMatch(q -> piece.contains(q) || q.contains(piece));
                if (!isQuoted) {
                    left.add(part.getKey() + ": " + piece);
                }
            }
        }
        return left;
    }
}
