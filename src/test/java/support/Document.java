import java.io.IOException;
import java.nio.file.Files;
import java.nio.file.Path;
import java.util.Arrays;
import java.util.LinkedHashMap;
import java.util.List;
import java.util.Map;

/** The document by its headings, and which of its words a test has quoted. */
final class Document {
    private static final class Section {
        final String text;
        final boolean[] quoted;

        Section(String text) {
            this.text = text;
            quoted = new boolean[text.length()];
        }
    }

    private static final List<String> HEADINGS = List.of("What it is", "Terms", "Settings", "Pots", "Firing", "Glazes", "Texts");

    private final Map<String, Section> sections = new LinkedHashMap<>();

    Document(Path file) throws IOException {
        String title = "";
        StringBuilder text = new StringBuilder();
        for (String line : Files.readAllLines(file)) {
            if (line.startsWith("#")) {
                close(title, text);
                title = line.replaceFirst("#+ ", "");
                text.setLength(0);
            } else if (!line.startsWith("```")) {
                text.append(line.strip()).append(' ');
            }
        }
        close(title, text);
    }

    private void close(String title, StringBuilder text) {
        if (title.startsWith("Promise ") || HEADINGS.contains(title)) {
            sections.put(title, new Section(text.toString().replaceAll(" +", " ")));
        }
    }

    /** Whether a section has these words; they count as quoted then. */
    boolean quote(String title, String words) {
        Section section = sections.get(title);
        if (section == null || words.isEmpty()) {
            return false;
        }
        boolean found = false;
        for (int at = section.text.indexOf(words); at >= 0; at = section.text.indexOf(words, at + 1)) {
            Arrays.fill(section.quoted, at, at + words.length(), true);
            found = true;
        }
        return found;
    }

    /** The words of each section that nobody has quoted; what stands in `..` is a name, and need not be. */
    Map<String, String> unquoted() {
        Map<String, String> missing = new LinkedHashMap<>();
        for (Map.Entry<String, Section> entry : sections.entrySet()) {
            String left = unquoted(entry.getValue());
            if (!left.isEmpty()) {
                missing.put(entry.getKey(), left);
            }
        }
        return missing;
    }

    private static String unquoted(Section section) {
        StringBuilder left = new StringBuilder();
        boolean name = false;
        for (int at = 0; at < section.text.length(); at++) {
            char c = section.text.charAt(at);
            name ^= c == '`';
            boolean counts = Character.isLetterOrDigit(c) && !name && !section.quoted[at];
            left.append(counts ? c : ' ');
        }
        return left.toString().strip().replaceAll(" +", " ");
    }

    int size() {
        return sections.size();
    }
}
