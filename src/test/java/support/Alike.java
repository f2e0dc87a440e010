import java.util.ArrayList;
import java.util.List;

/**
 * Whether two ways lead to the same: two new objects make calls that ought to leave them alike, then both are asked
 * and changed in the same ways, and have to answer alike. No object makes more than the 512 calls of the document.
 */
final class Alike {
    private static final int MOST_CALLS = 512;
    private static final int QUESTIONS_AT_ONCE = 150;

    /** What undo() and restore() bring back, by questions and by what is drawn and thrown next. */
    private static final List<List<Call>> STATE = new ArrayList<>();
    private static final List<List<Call>> SLOTS = new ArrayList<>();
    private static final List<List<Call>> PAD_AND_HISTORY = new ArrayList<>();
    private static final List<Call> UNDO = Call.parse("undo()");
    private static final List<Call> THERE_AND_BACK = Call.parse("save(1), set(DRY, 6), set(KILN, 23), set(LIMIT, 119), set(FEE, 9),"
            + "giveBack(0, 0), book(0, 1, 0), throwPot(0, 2), fill(0, 3), glaze(0, 3), glaze(1, 2), pass(1), book(0, 2, 20),"
            + "unload(0), unload(1), load(0), load(1), fire(100), fire(117), takeHome(0), takeHome(1), pupil(), pass(20), restore(1)");

    static {
        List<Call> questions = Call.parse(questions());
        for (int at = 0; at < questions.size(); at += QUESTIONS_AT_ONCE) {
            STATE.add(questions.subList(at, Math.min(at + QUESTIONS_AT_ONCE, questions.size())));
        }
        STATE.add(Call.parse(each("throwPot(", 10, ", 1)") + "set(DRY, 1), set(KILN, 24), set(LIMIT, 140), book(0, 0, 1),"
                + "book(1, 1, 1), pass(1), throwPot(0, 1), throwPot(1, 1), pass(20)," + each("load(", 20, ")") + "fire(80),"
                + each("of(", 20, ", 6)")));
        for (int slot = 0; slot < 2; slot++) {
            SLOTS.add(Call.parse("restore(" + slot + ")," + each("count(", 19, ")") + each("of(", 20, ", 4)")
                    + each("of(", 20, ", 5)") + each("booked(0, ", 21, ")")));
        }
        StringBuilder undone = new StringBuilder("fault(), count(19), count(20),");
        for (int i = 0; i < 7; i++) {
            undone.append("undo(),").append(each("count(", 21, ")"));
        }
        PAD_AND_HISTORY.add(Call.parse(undone.toString()));
        PAD_AND_HISTORY.add(Call.parse("carryOut()," + each("count(", 21, ")") + each("of(", 20, ", 4)")));
    }

    private Alike() {
    }

    private static String each(String before, int bound, String behind) {
        StringBuilder line = new StringBuilder();
        for (int i = 0; i < bound; i++) {
            line.append(before).append(i).append(behind).append(',');
        }
        return line.toString();
    }

    private static String questions() {
        StringBuilder line = new StringBuilder(each("count(", 19, ")") + "bestHeat(),");
        for (int wheel = 0; wheel < 5; wheel++) {
            line.append(each("booked(" + wheel + ", ", 21, ")"));
        }
        for (int what = 0; what < 9; what++) {
            line.append(each("of(", 20, ", " + what + ")"));
        }
        line.append(each("why(", 20, ")")).append(each("dryIn(", 20, ")"));
        for (int what = 0; what < 6; what++) {
            line.append(each("ofPupil(", 10, ", " + what + ")"));
        }
        line.append(each("firstFree(", 10, ", 0)")).append(each("firstFree(", 10, ", 1)"));
        for (int heat = 80; heat <= 140; heat++) {
            line.append(each("ifFired(" + heat + ", ", 4, ")"));
        }
        return line.toString();
    }

    /** Behind a call that changes nothing, everything is as without it. */
    static void withAndWithout(List<Call> before, Call call) {
        List<Call> with = joined(before, List.of(call));
        int different = differences(before, with, STATE) + differences(before, with, SLOTS)
                + differences(before, with, PAD_AND_HISTORY);
        Checks.due("answers that " + call.text + " changes", different, 0);
    }

    /** Behind a change and undo(), everything but the pad and the history is as without them. */
    static void undone(List<Call> before, Call change) {
        List<Call> with = joined(joined(before, List.of(change)), UNDO);
        int different = differences(before, with, STATE) + differences(before, with, SLOTS);
        Checks.due("answers that " + change.text + " and undo() change", different, 0);
    }

    /** Behind save(), many calls and restore(), everything but the pad, the history and the slot is as without them. */
    static void restored(List<Call> before) {
        List<Call> with = joined(before, THERE_AND_BACK);
        Checks.due("answers that save(1), other calls and restore(1) change", differences(before, with, STATE), 0);
    }

    private static int differences(List<Call> before, List<Call> with, List<List<Call>> probes) {
        int different = 0;
        for (List<Call> probe : probes) {
            if (with.size() + probe.size() > MOST_CALLS) {
                throw new IllegalArgumentException("too long a run to look behind: " + with.size() + " calls");
            }
            PotteryNights one = played(before);
            PotteryNights other = played(with);
            for (Call question : probe) {
                int due = question.perform(one);
                int answer = question.perform(other);
                if (due != answer && different++ == 0) {
                    System.out.println(question.text + " answered " + answer + ", due is " + due + ", behind:");
                }
            }
        }
        return different;
    }

    private static List<Call> joined(List<Call> first, List<Call> second) {
        List<Call> both = new ArrayList<>(first);
        both.addAll(second);
        return both;
    }

    private static PotteryNights played(List<Call> calls) {
        PotteryNights x = new PotteryNights();
        for (Call call : calls) {
            call.perform(x);
        }
        return x;
    }
}
