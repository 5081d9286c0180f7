import java.io.IOException;
import java.nio.file.Files;
import java.nio.file.Path;
import java.util.LinkedHashMap;
import java.util.Map;
import java.util.Set;

/** The document's sections, and which of their words a test quotes. */
final class Document {
    private static final Path PLACE = Path.of("..", "shared", "DOC.md");

    private final Map<String, StringBuilder> sections = new LinkedHashMap<>();

    Document() throws IOException {
        String heading = "";
        for (String line : Files.readAllLines(PLACE)) {
            if (line.startsWith("## ")) {
                heading = line.substring(3).split(":")[0];
            } else {
                sections.computeIfAbsent(heading, h -> new StringBuilder()).append(withoutSignature(line)).append('\n');
            }
        }
    }

    private static String withoutSignature(String line) {
        return line.startsWith("`") ? line.substring(line.indexOf("`: ") + 3) : line;
    }

    Set<String> headings() {
        return sections.keySet();
    }

    /** How often a section has the words. */
    int times(String heading, String words) {
        String text = text(heading);
        int times = 0;
        for (int at = text.indexOf(words); at >= 0; at = text.indexOf(words, at + 1)) {
            times++;
        }
        return times;
    }

    /** The section without the words that are quoted, and without what stands between words. */
    String unquoted(String heading, Iterable<String> quotes) {
        char[] left = text(heading).toCharArray();
        for (String words : quotes) {
            int at = text(heading).indexOf(words);
            for (int i = Math.max(at, 0); i < at + words.length(); i++) {
                left[i] = ' ';
            }
        }
        return new String(left).replaceAll("[^\\p{L}\\p{N}]+", " ").trim();
    }

    String text(String heading) {
        return sections.containsKey(heading) ? sections.get(heading).toString() : "";
    }
}
