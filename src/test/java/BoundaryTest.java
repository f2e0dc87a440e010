import java.io.IOException;
import java.nio.file.DirectoryStream;
import java.nio.file.Files;
import java.nio.file.Path;
import java.util.ArrayList;
import java.util.List;
import java.util.Map;
import java.util.TreeSet;

/**
 * Plays the runs of src/test/boundaries: each stands below the sentence of the document that it would see broken.
 * A sentence that the document doesn't have, and a word of the document that no run stands below, are faults, too.
 */
public final class BoundaryTest {
    private static final int MOST_CALLS = 512;
    // A longer run leaves its objects too few calls to look at what comes of it.
    private static final int MOST_CALLS_TO_LOOK = 300;

    private final Document document;
    private String section = "";
    private final List<String> sentences = new ArrayList<>();
    private final List<String> lines = new ArrayList<>();
    private int runs = 0;

    private BoundaryTest(Document document) {
        this.document = document;
    }

    public static void main(String[] args) throws IOException {
        Document document = new Document(Path.of("../shared/DOC.md"));
        Checks.due("sections of the document", document.size(), 7 + 29);
        BoundaryTest test = new BoundaryTest(document);
        for (Path file : files()) {
            test.read(file);
        }
        for (Map.Entry<String, String> left : document.unquoted().entrySet()) {
            Checks.due(left.getKey() + ": no run stands below \"" + left.getValue() + "\"; words of it", 1, 0);
        }
        System.out.println(test.runs + " runs");
        Checks.finish();
    }

    private static TreeSet<Path> files() throws IOException {
        TreeSet<Path> files = new TreeSet<>();
        try (DirectoryStream<Path> found = Files.newDirectoryStream(Path.of("src/test/boundaries"), "*.txt")) {
            found.forEach(files::add);
        }
        return files;
    }

    private void read(Path file) throws IOException {
        for (String line : Files.readAllLines(file)) {
            if (line.startsWith("# ")) {
                endSentence();
                section = line.substring(2);
            } else if (line.startsWith("> ")) {
                if (!lines.isEmpty()) {
                    endSentence();
                }
                sentences.add(line.substring(2).strip());
            } else if (line.equals("--")) {
                endRun();
            } else if (!line.isBlank() && !line.startsWith("//")) {
                lines.add(line.strip());
            }
        }
        endSentence();
    }

    private void endSentence() {
        if (!sentences.isEmpty()) {
            Checks.due(section + ": runs below " + sentences, lines.isEmpty() ? 0 : 1, 1);
            for (String sentence : sentences) {
                Checks.due(section + " says \"" + sentence + "\" (1: yes)", document.quote(section, sentence) ? 1 : 0, 1);
            }
        }
        endRun();
        sentences.clear();
    }

    private void endRun() {
        if (lines.isEmpty()) {
            return;
        }
        int wrong = Checks.wrong();
        play(Call.parse(String.join(", ", lines)));
        if (Checks.wrong() > wrong) {
            System.out.println("^ " + section + ": " + sentences);
        }
        lines.clear();
        runs++;
    }

    private static void play(List<Call> calls) {
        if (calls.size() > MOST_CALLS) {
            throw new IllegalArgumentException("a run of " + calls.size() + " calls");
        }
        PotteryNights x = new PotteryNights();
        boolean look = calls.size() <= MOST_CALLS_TO_LOOK;
        String last = "";
        for (int at = 0; at < calls.size(); at++) {
            Call call = calls.get(at);
            call.due(call.perform(x));
            if (look && !call.text.equals(last)) {
                look(calls.subList(0, at), call);
            }
            last = call.text;
        }
        if (look) {
            Alike.restored(calls);
        }
    }

    private static void look(List<Call> before, Call call) {
        if (call.leavesEverything()) {
            Alike.withAndWithout(before, call);
        } else if (call.isChange()) {
            Alike.undone(before, call);
        }
    }
}
