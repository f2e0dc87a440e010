import java.io.IOException;
import java.nio.file.Files;
import java.nio.file.Path;
import java.util.regex.Matcher;
import java.util.regex.Pattern;

/** Plays the example of README.md: each call that stands there has to answer what stands behind it. */
public final class ReadmeTest {
    private static final Pattern EXAMPLE = Pattern.compile("(?s)```java\n(.*?)```");
    private static final Pattern CALL = Pattern.compile("nights\\.(\\w+\\(.*?\\)); *// (\\{[^}]*\\}|-?\\w+)(?:: .*)?");
    private static final Pattern CHARACTER = Pattern.compile("'(.)'");

    public static void main(String[] args) throws IOException {
        Matcher example = EXAMPLE.matcher(Files.readString(Path.of("README.md")));
        Checks.due("README.md has an example (1: yes)", example.find() ? 1 : 0, 1);
        PotteryNights nights = new PotteryNights();
        for (String line : example.group(1).split("\n")) {
            if (line.startsWith("nights.")) {
                play(nights, line);
            } else {
                Checks.due("\"" + line + "\" is no call (1: yes)", line.matches("|// .*|PotteryNights nights = .*") ? 1 : 0, 1);
            }
        }
        Checks.finish();
    }

    private static void play(PotteryNights nights, String line) {
        Matcher m = CALL.matcher(line);
        if (!m.matches()) {
            Checks.due("\"" + line + "\" tells its answer (1: yes)", 0, 1);
            return;
        }
        for (Call call : Call.parse(plain(m.group(1)) + " = " + m.group(2))) {
            call.due(call.perform(nights));
        }
    }

    /** As Call wants it: names of constants without the class, and numbers that Long.decode() reads. */
    private static String plain(String call) {
        Matcher character = CHARACTER.matcher(call);
        String numbers = character.replaceAll(found -> Integer.toString(found.group(1).charAt(0)));
        return numbers.replace("PotteryNights.", "").replaceAll("(0x[0-9A-F]+)L", "$1");
    }
}
