import java.util.List;
import java.util.function.IntFunction;

/**
 * Names for rows of calls that many runs begin with. Pots are numbered from 0 in new workshops; the pupil i throws the
 * pot i at the wheel i.
 */
final class Scene {
    private Scene() {
    }

    static String calls(String name, List<Long> values) {
        int n = values.size();
        switch (name) {
            // pupils(n): n pupils come
            case "pupils":
                return values.get(0) + " * pupil()";
            // thrown(size, ..): the first pupils throw a pot each tonight, of these sizes
            case "thrown":
                return each(n, i -> "book(" + i + ", " + i + ", 0), throwPot(" + i + ", " + values.get(i) + ")");
            // dry(size, ..): a pupil for each pot, and three nights, so that the pots are dry, on the rack 0
            case "dry":
                return "pupils(" + n + "), thrown(" + listed(values) + "), pass(3)";
            // biscuits(size, ..): then they are fired once, at 100
            case "biscuits":
                return "dry(" + listed(values) + "), set(KILN, 24), " + each(n, i -> "load(" + i + ")") + ", fire(100)";
            // glazed(glaze, ..): pots of the size 1 that bear these glazes, on the rack 0
            case "glazed":
                return "biscuits(" + each(n, i -> "1") + "), " + each(n, i -> "glaze(" + i + ", " + values.get(i) + ")");
            // glazedInKiln(glaze, ..): and in the kiln
            case "glazedInKiln":
                return "glazed(" + listed(values) + "), " + each(n, i -> "load(" + i + ")");
            // twenty(): 20 pots of the size 1, five of each of the nights 0 to 3; the night is 3, the pupils are six
            case "twenty":
                return "pupils(6), " + each(4, night -> (night > 0 ? "pass(1), " : "") + "thrown(1, 1, 1, 1, 1)");
            // allBooked(): the pupils 0 to 4 have all wheels tonight and 20 nights ahead, a sixth one has none
            case "allBooked":
                return "pupils(6), " + each(5 * 21, i -> "book(" + i % 5 + ", " + i % 5 + ", " + i / 5 + ")");
            default:
                throw new IllegalArgumentException("no scene: " + name);
        }
    }

    private static String each(int bound, IntFunction<String> call) {
        StringBuilder line = new StringBuilder();
        for (int i = 0; i < bound; i++) {
            line.append(i > 0 ? ", " : "").append(call.apply(i));
        }
        return line.toString();
    }

    private static String listed(List<Long> values) {
        return each(values.size(), i -> values.get(i).toString());
    }
}
