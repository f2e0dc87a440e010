import java.lang.reflect.InvocationTargetException;
import java.lang.reflect.Method;
import java.util.ArrayList;
import java.util.HashMap;
import java.util.List;
import java.util.Map;
import java.util.regex.Matcher;
import java.util.regex.Pattern;

/**
 * A call that is written as text: "book(0, 4, 20) = 20", or without an answer where any that is no error will do. The
 * answer is a number, a name of a constant, or a set: "{0, 2}". "49 * pass(20)" stands for 49 calls; put("p;") gives
 * the number of these characters, type("..") puts a text of any length, and further names are those of a Scene.
 */
final class Call {
    private static final Pattern FORM =
            Pattern.compile("\\s*(?:(\\d+) \\* )?(\\w+)\\(([^()]*)\\)(?: = (\\{[^}]*\\}|-?\\w+))?(?:,|$)");
    private static final Map<String, Long> NAMES = Map.ofEntries(Map.entry("NO_SUCH", -1L), Map.entry("BAD_VALUE", -2L),
            Map.entry("BAD_TEXT", -3L), Map.entry("TOO_MANY", -4L), Map.entry("NOT_POSSIBLE", -5L), Map.entry("NONE", -6L),
            Map.entry("DRY", 0L), Map.entry("KILN", 1L), Map.entry("LIMIT", 2L), Map.entry("FEE", 3L),
            Map.entry("LOWEST", (long) Integer.MIN_VALUE), Map.entry("HIGHEST", (long) Integer.MAX_VALUE),
            Map.entry("LOWEST_LONG", Long.MIN_VALUE), Map.entry("HIGHEST_LONG", Long.MAX_VALUE));
    private static final List<String> QUESTIONS = List.of("of", "ofPupil", "booked", "count", "why", "dryIn", "ifFired",
            "bestHeat", "firstFree", "fault");
    private static final List<String> NO_CHANGES = List.of("put", "wipe", "undo", "save");
    private static final Map<String, Method> METHODS = new HashMap<>();

    static {
        for (Method method : PotteryNights.class.getMethods()) {
            METHODS.put(method.getName(), method);
        }
    }

    final String text;
    private final Method method;
    private final Object[] arguments;
    private final Long due;

    private Call(String name, List<Long> values, Long due) {
        method = METHODS.get(name);
        if (method == null || method.getParameterCount() != values.size()) {
            throw new IllegalArgumentException("no call: " + name + values);
        }
        arguments = new Object[values.size()];
        for (int i = 0; i < arguments.length; i++) {
            arguments[i] = method.getParameterTypes()[i] == int.class ? (Object) Math.toIntExact(values.get(i)) : values.get(i);
        }
        this.due = due;
        text = name + values.toString().replace('[', '(').replace(']', ')');
    }

    /** The calls of a line, with those of its scenes. */
    static List<Call> parse(String line) {
        List<Call> calls = new ArrayList<>();
        Matcher m = FORM.matcher(line);
        int end = 0;
        while (end < line.length() && m.find(end) && m.start() == end) {
            List<Call> once = one(m.group(2), m.group(3).strip(), m.group(4) == null ? null : number(m.group(4)));
            for (int i = m.group(1) == null ? 1 : Integer.parseInt(m.group(1)); i > 0; i--) {
                calls.addAll(once);
            }
            end = m.end();
        }
        if (end != line.length()) {
            throw new IllegalArgumentException("no calls: " + line.substring(end));
        }
        return calls;
    }

    private static List<Call> one(String name, String arguments, Long due) {
        if (due != null && !METHODS.containsKey(name)) {
            throw new IllegalArgumentException("a scene has no answer: " + name);
        }
        List<Long> values = new ArrayList<>();
        if (arguments.startsWith("\"")) {
            String characters = arguments.substring(1, arguments.length() - 1);
            if (name.equals("type")) {
                return typed(characters);
            }
            values.add(characters(characters));
        } else if (!arguments.isEmpty()) {
            for (String argument : arguments.split(", ")) {
                values.add(number(argument));
            }
        }
        if (METHODS.containsKey(name)) {
            return List.of(new Call(name, values, due));
        }
        return parse(Scene.calls(name, values));
    }

    private static long number(String text) {
        if (!text.startsWith("{")) {
            return NAMES.containsKey(text) ? NAMES.get(text) : Long.decode(text);
        }
        long set = 0;
        for (String member : text.substring(1, text.length() - 1).split(", ")) {
            set |= member.isEmpty() ? 0 : 1L << Integer.parseInt(member);
        }
        return set;
    }

    /** The number that gives these characters to put(). */
    static long characters(String text) {
        long number = 0;
        for (int i = 0; i < text.length(); i++) {
            number = number << 8 | text.charAt(i);
        }
        return number;
    }

    private static List<Call> typed(String text) {
        List<Call> calls = new ArrayList<>();
        for (int i = 0; i < text.length(); i += 8) {
            calls.add(new Call("put", List.of(characters(text.substring(i, Math.min(i + 8, text.length())))), null));
        }
        return calls;
    }

    int perform(PotteryNights x) {
        try {
            return (Integer) method.invoke(x, arguments);
        } catch (IllegalAccessException | InvocationTargetException e) {
            throw new IllegalStateException(text, e);
        }
    }

    void due(int answer) {
        Checks.due(text, due == null ? Math.min(answer, 0) : answer, due == null ? 0 : due);
    }

    /** Whether the document asks that behind the call everything is as it was. */
    boolean leavesEverything() {
        return due != null && due < 0 || QUESTIONS.contains(method.getName());
    }

    boolean isChange() {
        return !leavesEverything() && !NO_CHANGES.contains(method.getName());
    }
}
