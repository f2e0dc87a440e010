import java.util.ArrayList;
import java.util.Arrays;
import java.util.HashMap;
import java.util.LinkedList;
import java.util.List;
import java.util.Map;
import java.util.regex.Matcher;
import java.util.regex.Pattern;

/**
 * The document written down a second time, without a thought for speed or for the program's language, so that the two
 * can be held against each other: racks are tables of pots, bookings are kept for each night, texts are a pattern.
 */
final class Model {
    private static final int NO_SUCH = -1, BAD_VALUE = -2, BAD_TEXT = -3, TOO_MANY = -4, NOT_POSSIBLE = -5, NONE = -6;
    private static final int[][] RANGES = {{1, 9}, {3, 24}, {100, 140}, {0, 20}};
    private static final int[] GLAZE_HEATS = {100, 105, 110, 115};
    private static final String NUMBER = "(?:0|[1-9][0-9]{0,2})";
    private static final String ORDER = "(?:p|b[0-9][0-9](?:\\+" + NUMBER + ")?|t[0-9]\\*[0-9]|[lfnh]" + NUMBER + "|g" + NUMBER
            + "\\.[0-9])";
    private static final Pattern TEXT = Pattern.compile(ORDER + "(?:;" + ORDER + ")*");

    private static final class Pot {
        int pupil, size, fault, kind, dried, fired, glaze = NONE;
        boolean home, kiln;
        int thrownIn;

        Pot copy() {
            Pot p = new Pot();
            p.pupil = pupil;
            p.size = size;
            p.fault = fault;
            p.kind = kind;
            p.dried = dried;
            p.fired = fired;
            p.glaze = glaze;
            p.home = home;
            p.kiln = kiln;
            p.thrownIn = thrownIn;
            return p;
        }
    }

    private static final class State {
        int[] settings = {2, 8, 120, 3};
        int[] parts = {20, 20, 20, 20};
        int night, pupils, firings, x = 1;
        int[] paid = new int[10];
        List<Pot> pots = new ArrayList<>();
        int[][] racks = new int[3][8];
        Map<Integer, Integer> bookings = new HashMap<>();

        State() {
            for (int[] rack : racks) {
                Arrays.fill(rack, -1);
            }
        }

        State copy() {
            State s = new State();
            s.settings = settings.clone();
            s.parts = parts.clone();
            s.night = night;
            s.pupils = pupils;
            s.firings = firings;
            s.x = x;
            s.paid = paid.clone();
            for (Pot pot : pots) {
                s.pots.add(pot.copy());
            }
            for (int r = 0; r < 3; r++) {
                s.racks[r] = racks[r].clone();
            }
            s.bookings = new HashMap<>(bookings);
            return s;
        }
    }

    private State s = new State();
    private final LinkedList<State> history = new LinkedList<>();
    private final State[] slots = new State[2];
    private String pad = "";

    private int changed(State before, int answer) {
        if (answer >= 0) {
            history.addLast(before);
            if (history.size() > 6) {
                history.removeFirst();
            }
        }
        return answer;
    }

    private boolean noPot(int pot) {
        return pot < 0 || pot >= s.pots.size();
    }

    private boolean noPupil(int pupil) {
        return pupil < 0 || pupil >= s.pupils;
    }

    private static boolean out(int value, int least, int most) {
        return value < least || value > most;
    }

    private int wheelIn(int pupil, int night) {
        for (int wheel = 0; wheel < 5; wheel++) {
            if (s.bookings.getOrDefault(night * 5 + wheel, NONE) == pupil) {
                return wheel;
            }
        }
        return NONE;
    }

    private boolean threwTonight(int pupil) {
        return s.pots.stream().anyMatch(p -> p.pupil == pupil && p.thrownIn == s.night);
    }

    private int free() {
        int free = 0;
        for (int[] rack : s.racks) {
            for (int place : rack) {
                free += place == -1 ? 1 : 0;
            }
        }
        return free;
    }

    private int shelve(int pot) {
        for (int r = 0; r < 3; r++) {
            for (int place = 0; place < 8; place++) {
                if (s.racks[r][place] == -1) {
                    s.racks[r][place] = pot;
                    return r;
                }
            }
        }
        return -1;
    }

    private int spot(int pot) {
        for (int r = 0; r < 3; r++) {
            for (int place = 0; place < 8; place++) {
                if (s.racks[r][place] == pot) {
                    return 8 * r + place;
                }
            }
        }
        return -1;
    }

    private void unshelve(int pot) {
        int spot = spot(pot);
        s.racks[spot / 8][spot % 8] = -1;
    }

    int set(int setting, int value) {
        if (out(setting, 0, 3) || out(value, RANGES[setting][0], RANGES[setting][1])) {
            return BAD_VALUE;
        }
        State before = s.copy();
        int previous = s.settings[setting];
        s.settings[setting] = value;
        return changed(before, previous);
    }

    private int doPupil() {
        return s.pupils == 10 ? TOO_MANY : s.pupils++;
    }

    int pupil() {
        return changed(s.copy(), doPupil());
    }

    private int doBook(int pupil, int wheel, int ahead) {
        if (noPupil(pupil) || out(wheel, 0, 4)) {
            return NO_SUCH;
        }
        if (out(ahead, 0, 20)) {
            return BAD_VALUE;
        }
        int night = s.night + ahead;
        if (s.bookings.containsKey(night * 5 + wheel) || wheelIn(pupil, night) != NONE) {
            return NOT_POSSIBLE;
        }
        s.bookings.put(night * 5 + wheel, pupil);
        return night;
    }

    int book(int pupil, int wheel, int ahead) {
        return changed(s.copy(), doBook(pupil, wheel, ahead));
    }

    int giveBack(int pupil, int ahead) {
        if (noPupil(pupil)) {
            return NO_SUCH;
        }
        if (out(ahead, 0, 20)) {
            return BAD_VALUE;
        }
        int wheel = wheelIn(pupil, s.night + ahead);
        if (wheel == NONE || ahead == 0 && threwTonight(pupil)) {
            return NOT_POSSIBLE;
        }
        State before = s.copy();
        s.bookings.remove((s.night + ahead) * 5 + wheel);
        return changed(before, wheel);
    }

    private int doThrow(int pupil, int size) {
        if (noPupil(pupil)) {
            return NO_SUCH;
        }
        if (out(size, 1, 3)) {
            return BAD_VALUE;
        }
        if (wheelIn(pupil, s.night) == NONE || threwTonight(pupil)) {
            return NOT_POSSIBLE;
        }
        if (s.pots.size() == 20 || free() == 0) {
            return TOO_MANY;
        }
        Pot pot = new Pot();
        pot.pupil = pupil;
        pot.size = size;
        pot.thrownIn = s.night;
        s.x = (75 * s.x + 74) % 65537;
        pot.fault = s.x / 8 % 10;
        s.pots.add(pot);
        shelve(s.pots.size() - 1);
        return s.pots.size() - 1;
    }

    int throwPot(int pupil, int size) {
        return changed(s.copy(), doThrow(pupil, size));
    }

    private int doLoad(int pot) {
        if (noPot(pot)) {
            return NO_SUCH;
        }
        if (why(pot) != 0) {
            return NOT_POSSIBLE;
        }
        unshelve(pot);
        s.pots.get(pot).kiln = true;
        return kilnSizes();
    }

    int load(int pot) {
        return changed(s.copy(), doLoad(pot));
    }

    int unload(int pot) {
        if (noPot(pot)) {
            return NO_SUCH;
        }
        if (!s.pots.get(pot).kiln) {
            return NOT_POSSIBLE;
        }
        if (free() == 0) {
            return TOO_MANY;
        }
        State before = s.copy();
        s.pots.get(pot).kiln = false;
        return changed(before, shelve(pot));
    }

    /** 0 it breaks, 1 it comes to be biscuit, 2 done, 3 it stays as it is. */
    private int outcome(Pot pot, int heat) {
        if (heat + pot.fault > s.settings[2]) {
            return 0;
        }
        if (pot.kind == 0) {
            return heat < 95 ? 3 : 1;
        }
        int due = GLAZE_HEATS[pot.glaze];
        if (heat < due) {
            return 3;
        }
        return heat > due + 10 ? 1 : 2;
    }

    private int doFire(int heat) {
        if (out(heat, 80, 140)) {
            return BAD_VALUE;
        }
        if (s.pots.stream().noneMatch(p -> p.kiln)) {
            return NOT_POSSIBLE;
        }
        if (s.pots.stream().filter(p -> p.kiln && outcome(p, heat) != 0).count() > free()) {
            return TOO_MANY;
        }
        int broken = 0;
        for (int pot = 0; pot < s.pots.size(); pot++) {
            Pot p = s.pots.get(pot);
            if (!p.kiln) {
                continue;
            }
            int outcome = outcome(p, heat);
            p.kiln = false;
            p.fired++;
            if (outcome == 0) {
                broken++;
                p.kind = 4;
                p.glaze = NONE;
                p.home = true;
                continue;
            }
            shelve(pot);
            if (outcome == 1) {
                p.kind = 1;
                p.glaze = NONE;
            } else if (outcome == 2) {
                p.kind = 3;
            }
        }
        s.firings++;
        return broken;
    }

    int fire(int heat) {
        return changed(s.copy(), doFire(heat));
    }

    private int doGlaze(int pot, int glaze) {
        if (noPot(pot) || out(glaze, 0, 3)) {
            return NO_SUCH;
        }
        Pot p = s.pots.get(pot);
        if (p.kind != 1 || spot(pot) == -1 || s.parts[glaze] < p.size) {
            return NOT_POSSIBLE;
        }
        p.kind = 2;
        p.glaze = glaze;
        return s.parts[glaze] -= p.size;
    }

    int glaze(int pot, int glaze) {
        return changed(s.copy(), doGlaze(pot, glaze));
    }

    int fill(int glaze, int parts) {
        if (out(glaze, 0, 3)) {
            return NO_SUCH;
        }
        if (out(parts, 1, 99)) {
            return BAD_VALUE;
        }
        State before = s.copy();
        s.parts[glaze] = Math.min(99, s.parts[glaze] + parts);
        return changed(before, s.parts[glaze]);
    }

    private int doTakeHome(int pot) {
        if (noPot(pot)) {
            return NO_SUCH;
        }
        Pot p = s.pots.get(pot);
        if (p.kind != 3 || spot(pot) == -1) {
            return NOT_POSSIBLE;
        }
        unshelve(pot);
        p.home = true;
        int fee = s.settings[3] * p.size;
        s.paid[p.pupil] += fee;
        return fee;
    }

    int takeHome(int pot) {
        return changed(s.copy(), doTakeHome(pot));
    }

    private int doPass(int nights) {
        if (out(nights, 1, 20)) {
            return BAD_VALUE;
        }
        if (s.night + nights > 999) {
            return NOT_POSSIBLE;
        }
        for (int pot = 0; pot < s.pots.size(); pot++) {
            if (s.pots.get(pot).kind == 0 && spot(pot) >= 0) {
                s.pots.get(pot).dried += spot(pot) < 8 ? 2 * nights : nights;
            }
        }
        return s.night += nights;
    }

    int pass(int nights) {
        return changed(s.copy(), doPass(nights));
    }

    int of(int pot, int what) {
        if (noPot(pot)) {
            return NO_SUCH;
        }
        if (out(what, 0, 8)) {
            return BAD_VALUE;
        }
        Pot p = s.pots.get(pot);
        int where = p.home ? 2 : p.kiln ? 1 : 0;
        return new int[] {p.pupil, p.size, p.kind, where, where == 0 ? spot(pot) : NONE, p.dried, p.fired > 0 ? p.fault : NONE,
            p.glaze, p.fired}[what];
    }

    private int setOf(java.util.function.Predicate<Pot> wanted) {
        int set = 0;
        for (int pot = 0; pot < s.pots.size(); pot++) {
            set += wanted.test(s.pots.get(pot)) ? 1 << pot : 0;
        }
        return set;
    }

    int ofPupil(int pupil, int what) {
        if (noPupil(pupil)) {
            return NO_SUCH;
        }
        if (out(what, 0, 5)) {
            return BAD_VALUE;
        }
        int bookings = (int) s.bookings.entrySet().stream().filter(e -> e.getValue() == pupil && e.getKey() / 5 >= s.night).count();
        return new int[] {wheelIn(pupil, s.night), setOf(p -> p.pupil == pupil), setOf(p -> p.pupil == pupil && p.kind == 3),
            setOf(p -> p.pupil == pupil && p.kind == 4), s.paid[pupil], bookings}[what];
    }

    int booked(int wheel, int ahead) {
        if (out(wheel, 0, 4)) {
            return NO_SUCH;
        }
        return out(ahead, 0, 20) ? BAD_VALUE : s.bookings.getOrDefault((s.night + ahead) * 5 + wheel, NONE);
    }

    private int kilnSizes() {
        return s.pots.stream().filter(p -> p.kiln).mapToInt(p -> p.size).sum();
    }

    int count(int what) {
        if (out(what, 0, 20)) {
            return BAD_VALUE;
        }
        int loadable = 0;
        for (int pot = 0; pot < s.pots.size(); pot++) {
            loadable += why(pot) == 0 ? 1 << pot : 0;
        }
        return new int[] {s.night, s.pupils, s.pots.size(), setOf(p -> !p.kiln && !p.home), setOf(p -> p.kiln), kilnSizes(), free(),
            loadable, s.firings, Integer.bitCount(setOf(p -> p.kind == 4)), Arrays.stream(s.paid).sum(), s.parts[0], s.parts[1],
            s.parts[2], s.parts[3], s.settings[0], s.settings[1], s.settings[2], s.settings[3], pad.length(),
            history.size()}[what];
    }

    int why(int pot) {
        if (noPot(pot)) {
            return NO_SUCH;
        }
        Pot p = s.pots.get(pot);
        if (p.home || p.kiln) {
            return 1;
        }
        if (p.kind != 0 && p.kind != 2) {
            return 2;
        }
        if (p.kind == 0 && p.dried < s.settings[0] * p.size) {
            return 3;
        }
        if (s.pots.stream().anyMatch(q -> q.kiln && q.kind != p.kind)) {
            return 4;
        }
        return kilnSizes() + p.size > s.settings[1] ? 5 : 0;
    }

    int dryIn(int pot) {
        if (noPot(pot)) {
            return NO_SUCH;
        }
        Pot p = s.pots.get(pot);
        if (p.kind != 0) {
            return 0;
        }
        if (p.kiln) {
            return NOT_POSSIBLE;
        }
        int nights = 0;
        for (int dried = p.dried; dried < s.settings[0] * p.size; dried += spot(pot) < 8 ? 2 : 1) {
            nights++;
        }
        return nights;
    }

    int ifFired(int heat, int what) {
        if (out(heat, 80, 140) || out(what, 0, 3)) {
            return BAD_VALUE;
        }
        return setOf(p -> p.kiln && outcome(p, heat) == what);
    }

    int bestHeat() {
        if (setOf(p -> p.kiln) == 0) {
            return NONE;
        }
        int best = 0, most = -1, fewest = 99;
        for (int heat = 140; heat >= 80; heat--) {
            int h = heat;
            int coming = Integer.bitCount(setOf(p -> p.kiln && outcome(p, h) == (p.kind == 0 ? 1 : 2)));
            int breaking = Integer.bitCount(ifFired(heat, 0));
            if (coming > most || coming == most && breaking <= fewest) {
                best = heat;
                most = coming;
                fewest = breaking;
            }
        }
        return best;
    }

    int firstFree(int pupil, int what) {
        if (noPupil(pupil)) {
            return NO_SUCH;
        }
        if (out(what, 0, 1)) {
            return BAD_VALUE;
        }
        for (int night = s.night; night <= s.night + 20; night++) {
            for (int wheel = 0; wheel < 5; wheel++) {
                if (!s.bookings.containsKey(night * 5 + wheel) && wheelIn(pupil, night) == NONE) {
                    return what == 0 ? night : wheel;
                }
            }
        }
        return NONE;
    }

    int put(long characters) {
        StringBuilder text = new StringBuilder();
        long left = characters;
        while (left != 0) {
            char c = (char) (left & 0xff);
            if (c < 33 || c > 126) {
                return BAD_VALUE;
            }
            text.insert(0, c);
            left >>>= 8;
        }
        if (text.length() == 0) {
            return BAD_VALUE;
        }
        if (pad.length() + text.length() > 80) {
            return TOO_MANY;
        }
        pad += text;
        return pad.length();
    }

    int wipe() {
        int length = pad.length();
        pad = "";
        return length;
    }

    int fault() {
        for (int length = 1; length <= pad.length(); length++) {
            Matcher start = TEXT.matcher(pad.substring(0, length));
            if (!start.matches() && !start.hitEnd()) {
                return length - 1;
            }
        }
        return TEXT.matcher(pad).matches() ? NONE : pad.length();
    }

    private int order(String order) {
        int[] n = Arrays.stream(order.substring(1).split("[^0-9]")).filter(t -> !t.isEmpty()).mapToInt(Integer::parseInt).toArray();
        switch (order.charAt(0)) {
            case 'p': return doPupil();
            case 'b': return doBook(order.charAt(1) - '0', order.charAt(2) - '0', n.length > 1 ? n[1] : 0);
            case 't': return doThrow(n[0], n[1]);
            case 'l': return doLoad(n[0]);
            case 'f': return doFire(n[0]);
            case 'g': return doGlaze(n[0], n[1]);
            case 'n': return doPass(n[0]);
            default: return doTakeHome(n[0]);
        }
    }

    int carryOut() {
        if (fault() != NONE) {
            return BAD_TEXT;
        }
        State before = s.copy();
        int done = 0;
        for (String order : pad.split(";")) {
            if (order(order) < 0) {
                break;
            }
            done++;
        }
        pad = "";
        return changed(before, done);
    }

    int undo() {
        if (history.isEmpty()) {
            return NOT_POSSIBLE;
        }
        s = history.removeLast();
        return history.size();
    }

    int save(int slot) {
        if (out(slot, 0, 1)) {
            return BAD_VALUE;
        }
        slots[slot] = s.copy();
        return s.pots.size();
    }

    int restore(int slot) {
        if (out(slot, 0, 1)) {
            return BAD_VALUE;
        }
        if (slots[slot] == null) {
            return NOT_POSSIBLE;
        }
        State before = s;
        s = slots[slot].copy();
        return changed(before, s.pots.size());
    }
}
