/**
 * Pottery night classes by wheels, drying racks and shared firings. This class is the face: it keeps the history,
 * the slots and the pad; what can be undone and saved is a {@link Workshop}.
 */
public final class PotteryNights {
    public static final int NO_SUCH = -1, BAD_VALUE = -2, BAD_TEXT = -3, TOO_MANY = -4, NOT_POSSIBLE = -5, NONE = -6;
    public static final int DRY = 0, KILN = 1, LIMIT = 2, FEE = 3;

    private static final int SETTINGS = 4;
    private static final int MOST_PUPILS = 10;
    private static final int MOST_POTS = 20;
    private static final int LARGEST_SIZE = 3;
    private static final int LAST_NIGHT = 999;
    private static final int MOST_NIGHTS_PASSED = 20;

    private static final int WHEELS = 5;
    private static final int FARTHEST_AHEAD = 20;
    private static final int NIGHTS_OPEN = FARTHEST_AHEAD + 1;

    private static final int CLAY = 0, BISCUIT = 1, GLAZED = 2, DONE = 3, BROKEN = 4;

    // A pot's spot is 8 * its rack + its place there, or one of the two beyond the racks.
    private static final int PLACES_OF_RACK = 8;
    private static final int PLACES = 3 * PLACES_OF_RACK;
    private static final int SPOT_IN_KILN = PLACES;
    private static final int SPOT_AT_HOME = PLACES + 1;

    private static final int LOWEST_HEAT = 80;
    private static final int HIGHEST_HEAT = 140;
    private static final int BISCUIT_HEAT = 95;
    private static final int HEAT_OF_FIRST_GLAZE = 100;
    private static final int HEAT_BETWEEN_GLAZES = 5;
    private static final int HEAT_UNTIL_GLAZE_RUNS = 10;

    private static final int GLAZES = 4;
    private static final int PARTS_AT_FIRST = 20;
    private static final int MOST_PARTS = 99;

    private static final int PAD_LENGTH = 80;
    private static final int DIGITS_OF_NUMBER = 3;
    private static final int STATES_KEPT = 6;
    private static final int SLOTS = 2;

    private final Workshop now = new Workshop();
    private final History history = new History();
    private final Workshop[] slots = new Workshop[SLOTS];
    private final Pad pad = new Pad();

    public PotteryNights() {
    }

    // ---- changes

    public int set(int setting, int value) {
        history.prepare(now);
        return history.record(now.changeSetting(setting, value));
    }

    public int pupil() {
        history.prepare(now);
        return history.record(now.admitPupil());
    }

    public int book(int pupil, int wheel, int ahead) {
        history.prepare(now);
        return history.record(now.bookWheel(pupil, wheel, ahead));
    }

    public int giveBack(int pupil, int ahead) {
        history.prepare(now);
        return history.record(now.cancelBooking(pupil, ahead));
    }

    public int throwPot(int pupil, int size) {
        history.prepare(now);
        return history.record(now.throwClay(pupil, size));
    }

    public int load(int pot) {
        history.prepare(now);
        return history.record(now.moveIntoKiln(pot));
    }

    public int unload(int pot) {
        history.prepare(now);
        return history.record(now.moveOutOfKiln(pot));
    }

    public int fire(int heat) {
        history.prepare(now);
        return history.record(now.fireKiln(heat));
    }

    public int glaze(int pot, int glaze) {
        history.prepare(now);
        return history.record(now.glazePot(pot, glaze));
    }

    public int fill(int glaze, int parts) {
        history.prepare(now);
        return history.record(now.fillGlaze(glaze, parts));
    }

    public int takeHome(int pot) {
        history.prepare(now);
        return history.record(now.handOver(pot));
    }

    public int pass(int nights) {
        history.prepare(now);
        return history.record(now.passNights(nights));
    }

    // ---- what there is

    public int of(int pot, int what) {
        return now.factOfPot(pot, what);
    }

    public int ofPupil(int pupil, int what) {
        return now.factOfPupil(pupil, what);
    }

    public int booked(int wheel, int ahead) {
        return now.bookerOf(wheel, ahead);
    }

    public int count(int what) {
        switch (what) {
            case 19: return pad.length();
            case 20: return history.kept();
            default: return now.figure(what);
        }
    }

    // ---- what if; nothing changes

    public int why(int pot) {
        return now.reasonAgainstLoading(pot);
    }

    public int dryIn(int pot) {
        return now.nightsUntilDry(pot);
    }

    public int ifFired(int heat, int what) {
        return now.outcomeOfFiring(heat, what);
    }

    public int bestHeat() {
        return now.heatForMostPots();
    }

    public int firstFree(int pupil, int what) {
        return now.firstFreeNight(pupil, what);
    }

    // ---- texts

    public int put(long characters) {
        return pad.append(characters);
    }

    public int wipe() {
        return pad.clear();
    }

    public int fault() {
        return pad.findFault();
    }

    public int carryOut() {
        if (pad.findFault() != NONE) {
            return BAD_TEXT;
        }
        history.prepare(now);
        int done = 0;
        pad.rewind();
        while (done < PAD_LENGTH && pad.readOrder() && carryOutOrder() >= 0) {
            done++;
            pad.skip(';');
        }
        pad.clear();
        return history.record(done);
    }

    /** Goes to the workshop itself, past the history: an order records nothing. */
    private int carryOutOrder() {
        switch (pad.kind()) {
            case 'p': return now.admitPupil();
            case 'b': return now.bookWheel(pad.first(), pad.second(), pad.third());
            case 't': return now.throwClay(pad.first(), pad.second());
            case 'l': return now.moveIntoKiln(pad.first());
            case 'f': return now.fireKiln(pad.first());
            case 'g': return now.glazePot(pad.first(), pad.second());
            case 'n': return now.passNights(pad.first());
            case 'h': return now.handOver(pad.first());
            default: return BAD_TEXT;
        }
    }

    // ---- undo, saving

    public int undo() {
        return history.stepBack(now);
    }

    public int save(int slot) {
        if (slot < 0 || slot >= slots.length) {
            return BAD_VALUE;
        }
        Workshop saved = slots[slot];
        if (saved == null) {
            saved = new Workshop();
            slots[slot] = saved;
        }
        saved.copyFrom(now);
        return now.potsSoFar();
    }

    public int restore(int slot) {
        if (slot < 0 || slot >= slots.length) {
            return BAD_VALUE;
        }
        Workshop saved = slots[slot];
        if (saved == null) {
            return NOT_POSSIBLE;
        }
        history.prepare(now);
        now.copyFrom(saved);
        return history.record(now.potsSoFar());
    }

    private static boolean isWithin(int value, int least, int most) {
        return value >= least && value <= most;
    }

    private static boolean isAhead(int ahead) {
        return isWithin(ahead, 0, FARTHEST_AHEAD);
    }

    private static boolean isHeat(int heat) {
        return isWithin(heat, LOWEST_HEAT, HIGHEST_HEAT);
    }

    private static boolean isWheel(int wheel) {
        return isWithin(wheel, 0, WHEELS - 1);
    }

    private static boolean isGlaze(int glaze) {
        return isWithin(glaze, 0, GLAZES - 1);
    }

    /** Numbers that look at each index themselves, so that no caller can make the machine throw. */
    private static final class Row {
        private final int[] cells;

        Row(int length) {
            cells = new int[Math.max(length, 0)];
        }

        int at(int index) {
            return index >= 0 && index < cells.length ? cells[index] : 0;
        }

        void write(int index, int value) {
            if (index >= 0 && index < cells.length) {
                cells[index] = value;
            }
        }

        void add(int index, int value) {
            write(index, at(index) + value);
        }

        /** The indexes below a bound whose cells hold a value, as a set. */
        int indexesOf(int value, int bound) {
            int set = 0;
            for (int index = 0; index < bound && index < cells.length; index++) {
                if (cells[index] == value) {
                    set |= 1 << index;
                }
            }
            return set;
        }

        int sum() {
            int sum = 0;
            for (int cell : cells) {
                sum += cell;
            }
            return sum;
        }

        void copyFrom(Row other) {
            if (other != null) {
                System.arraycopy(other.cells, 0, cells, 0, Math.min(cells.length, other.cells.length));
            }
        }
    }

    /** The night, and who has which wheel tonight and in the nights to come. */
    private static final class Calendar {
        // A night keeps its cells as long as it is open; then the night that is 21 later gets them.
        // A cell is 0 as long as the wheel is free, otherwise the pupil + 1.
        private final Row bookers = new Row(WHEELS * NIGHTS_OPEN);
        private int night;
        private int throwersTonight;

        void copyFrom(Calendar other) {
            if (other == null) {
                return;
            }
            bookers.copyFrom(other.bookers);
            night = other.night;
            throwersTonight = other.throwersTonight;
        }

        private int cellOf(int wheel, int ahead) {
            return WHEELS * ((night + ahead) % NIGHTS_OPEN) + wheel;
        }

        int bookerOf(int wheel, int ahead) {
            int booker = bookers.at(cellOf(wheel, ahead));
            return booker == 0 ? NONE : booker - 1;
        }

        void enter(int wheel, int ahead, int pupil) {
            bookers.write(cellOf(wheel, ahead), pupil + 1);
        }

        void cross(int wheel, int ahead) {
            bookers.write(cellOf(wheel, ahead), 0);
        }

        int wheelOf(int pupil, int ahead) {
            for (int wheel = 0; wheel < WHEELS; wheel++) {
                if (bookerOf(wheel, ahead) == pupil) {
                    return wheel;
                }
            }
            return NONE;
        }

        int lowestFreeWheel(int ahead) {
            for (int wheel = 0; wheel < WHEELS; wheel++) {
                if (bookerOf(wheel, ahead) == NONE) {
                    return wheel;
                }
            }
            return NONE;
        }

        int bookingsOf(int pupil) {
            int bookings = 0;
            for (int ahead = 0; ahead <= FARTHEST_AHEAD; ahead++) {
                if (wheelOf(pupil, ahead) != NONE) {
                    bookings++;
                }
            }
            return bookings;
        }

        boolean hasThrownTonight(int pupil) {
            return (throwersTonight >> pupil & 1) != 0;
        }

        void noteThrower(int pupil) {
            throwersTonight |= 1 << pupil;
        }

        void passOneNight() {
            for (int wheel = 0; wheel < WHEELS; wheel++) {
                cross(wheel, 0);
            }
            throwersTonight = 0;
            night++;
        }
    }

    /** The pots so far, and where they are. Callers look at has() first. */
    private static final class Pots {
        private final Row pupils = new Row(MOST_POTS);
        private final Row sizes = new Row(MOST_POTS);
        private final Row faults = new Row(MOST_POTS);
        private final Row kinds = new Row(MOST_POTS);
        private final Row spots = new Row(MOST_POTS);
        private final Row nightsDried = new Row(MOST_POTS);
        private final Row glazes = new Row(MOST_POTS);
        private final Row firings = new Row(MOST_POTS);
        private int soFar;

        void copyFrom(Pots other) {
            if (other == null) {
                return;
            }
            pupils.copyFrom(other.pupils);
            sizes.copyFrom(other.sizes);
            faults.copyFrom(other.faults);
            kinds.copyFrom(other.kinds);
            spots.copyFrom(other.spots);
            nightsDried.copyFrom(other.nightsDried);
            glazes.copyFrom(other.glazes);
            firings.copyFrom(other.firings);
            soFar = other.soFar;
        }

        boolean has(int pot) {
            return pot >= 0 && pot < soFar;
        }

        boolean isKind(int pot, int kind) {
            return kinds.at(pot) == kind;
        }

        boolean isOnRack(int pot) {
            return spots.at(pot) < PLACES;
        }

        boolean isBesideKiln(int pot) {
            return spots.at(pot) < PLACES_OF_RACK;
        }

        boolean isInKiln(int pot) {
            return spots.at(pot) == SPOT_IN_KILN;
        }

        int addClay(int pupil, int size, int fault) {
            int pot = soFar;
            pupils.write(pot, pupil);
            sizes.write(pot, size);
            faults.write(pot, fault);
            kinds.write(pot, CLAY);
            nightsDried.write(pot, 0);
            firings.write(pot, 0);
            // The new pot is counted behind this, so that what its spot was before takes no place.
            putOnRack(pot);
            soFar++;
            return pot;
        }

        /** Callers look at freePlaces() first. */
        void putOnRack(int pot) {
            int taken = placesTaken();
            int place = 0;
            while (place < PLACES - 1 && (taken >> place & 1) != 0) {
                place++;
            }
            spots.write(pot, place);
        }

        private int placesTaken() {
            int taken = 0;
            for (int pot = 0; pot < soFar; pot++) {
                int spot = spots.at(pot);
                if (spot < PLACES) {
                    taken |= 1 << spot;
                }
            }
            return taken;
        }

        int freePlaces() {
            return PLACES - Integer.bitCount(placesTaken());
        }

        int onRacks() {
            int set = 0;
            for (int pot = 0; pot < soFar; pot++) {
                if (isOnRack(pot)) {
                    set |= 1 << pot;
                }
            }
            return set;
        }

        int inKiln() {
            return spots.indexesOf(SPOT_IN_KILN, soFar);
        }

        int thrownBy(int pupil) {
            return pupils.indexesOf(pupil, soFar);
        }

        int ofKind(int kind) {
            return kinds.indexesOf(kind, soFar);
        }

        int sizesInKiln() {
            int together = 0;
            for (int pot = 0; pot < soFar; pot++) {
                if (isInKiln(pot)) {
                    together += sizes.at(pot);
                }
            }
            return together;
        }

        boolean isKilnForOtherThan(int kind) {
            return (inKiln() & ~ofKind(kind)) != 0;
        }

        void dryOneNight() {
            for (int pot = 0; pot < soFar; pot++) {
                if (isOnRack(pot) && isKind(pot, CLAY)) {
                    nightsDried.add(pot, isBesideKiln(pot) ? 2 : 1);
                }
            }
        }

        private int heatOfGlazeOn(int pot) {
            return HEAT_OF_FIRST_GLAZE + HEAT_BETWEEN_GLAZES * glazes.at(pot);
        }

        /** What a pot in the kiln is behind a firing. */
        int kindFired(int pot, int heat, int limit) {
            if (heat + faults.at(pot) > limit) {
                return BROKEN;
            }
            if (isKind(pot, CLAY)) {
                return heat >= BISCUIT_HEAT ? BISCUIT : CLAY;
            }
            int above = heat - heatOfGlazeOn(pot);
            if (above < 0) {
                return GLAZED;
            }
            return above <= HEAT_UNTIL_GLAZE_RUNS ? DONE : BISCUIT;
        }
    }

    /** Everything that undo() and restore() bring back, with the rules by which it changes. */
    private static final class Workshop {
        private final Row settings = new Row(SETTINGS);
        private final Calendar calendar = new Calendar();
        private final Pots pots = new Pots();
        private final Row glazeParts = new Row(GLAZES);
        private final Row feesPaid = new Row(MOST_PUPILS);
        private int pupils;
        private int faultDraw = 1;
        private int firings;

        Workshop() {
            settings.write(DRY, 2);
            settings.write(KILN, 8);
            settings.write(LIMIT, 120);
            settings.write(FEE, 3);
            for (int glaze = 0; glaze < GLAZES; glaze++) {
                glazeParts.write(glaze, PARTS_AT_FIRST);
            }
        }

        void copyFrom(Workshop other) {
            if (other == null) {
                return;
            }
            settings.copyFrom(other.settings);
            calendar.copyFrom(other.calendar);
            pots.copyFrom(other.pots);
            glazeParts.copyFrom(other.glazeParts);
            feesPaid.copyFrom(other.feesPaid);
            pupils = other.pupils;
            faultDraw = other.faultDraw;
            firings = other.firings;
        }

        int potsSoFar() {
            return pots.soFar;
        }

        private boolean hasPupil(int pupil) {
            return pupil >= 0 && pupil < pupils;
        }

        private static boolean isInRange(int setting, int value) {
            switch (setting) {
                case DRY: return isWithin(value, 1, 9);
                case KILN: return isWithin(value, 3, 24);
                case LIMIT: return isWithin(value, 100, 140);
                case FEE: return isWithin(value, 0, 20);
                default: return false;
            }
        }

        int changeSetting(int setting, int value) {
            if (!isInRange(setting, value)) {
                return BAD_VALUE;
            }
            int previous = settings.at(setting);
            settings.write(setting, value);
            return previous;
        }

        int admitPupil() {
            if (pupils >= MOST_PUPILS) {
                return TOO_MANY;
            }
            return pupils++;
        }

        // ---- wheels

        int bookWheel(int pupil, int wheel, int ahead) {
            if (!hasPupil(pupil) || !isWheel(wheel)) {
                return NO_SUCH;
            }
            if (!isAhead(ahead)) {
                return BAD_VALUE;
            }
            if (calendar.bookerOf(wheel, ahead) != NONE || calendar.wheelOf(pupil, ahead) != NONE) {
                return NOT_POSSIBLE;
            }
            calendar.enter(wheel, ahead, pupil);
            return calendar.night + ahead;
        }

        int cancelBooking(int pupil, int ahead) {
            if (!hasPupil(pupil)) {
                return NO_SUCH;
            }
            if (!isAhead(ahead)) {
                return BAD_VALUE;
            }
            int wheel = calendar.wheelOf(pupil, ahead);
            if (wheel == NONE || ahead == 0 && calendar.hasThrownTonight(pupil)) {
                return NOT_POSSIBLE;
            }
            calendar.cross(wheel, ahead);
            return wheel;
        }

        int bookerOf(int wheel, int ahead) {
            if (!isWheel(wheel)) {
                return NO_SUCH;
            }
            return isAhead(ahead) ? calendar.bookerOf(wheel, ahead) : BAD_VALUE;
        }

        int firstFreeNight(int pupil, int what) {
            if (!hasPupil(pupil)) {
                return NO_SUCH;
            }
            if (what != 0 && what != 1) {
                return BAD_VALUE;
            }
            for (int ahead = 0; ahead <= FARTHEST_AHEAD; ahead++) {
                int wheel = calendar.lowestFreeWheel(ahead);
                if (wheel != NONE && calendar.wheelOf(pupil, ahead) == NONE) {
                    return what == 0 ? calendar.night + ahead : wheel;
                }
            }
            return NONE;
        }

        int passNights(int nights) {
            if (!isWithin(nights, 1, MOST_NIGHTS_PASSED)) {
                return BAD_VALUE;
            }
            if (calendar.night + nights > LAST_NIGHT) {
                return NOT_POSSIBLE;
            }
            for (int passed = 0; passed < nights; passed++) {
                pots.dryOneNight();
                calendar.passOneNight();
            }
            return calendar.night;
        }

        // ---- pots

        int throwClay(int pupil, int size) {
            if (!hasPupil(pupil)) {
                return NO_SUCH;
            }
            if (!isWithin(size, 1, LARGEST_SIZE)) {
                return BAD_VALUE;
            }
            if (calendar.wheelOf(pupil, 0) == NONE || calendar.hasThrownTonight(pupil)) {
                return NOT_POSSIBLE;
            }
            if (pots.soFar >= MOST_POTS || pots.freePlaces() == 0) {
                return TOO_MANY;
            }
            calendar.noteThrower(pupil);
            return pots.addClay(pupil, size, drawFault());
        }

        private int drawFault() {
            faultDraw = (75 * faultDraw + 74) % 65537;
            return faultDraw / 8 % 10;
        }

        int glazePot(int pot, int glaze) {
            if (!pots.has(pot) || !isGlaze(glaze)) {
                return NO_SUCH;
            }
            int size = pots.sizes.at(pot);
            if (!pots.isKind(pot, BISCUIT) || !pots.isOnRack(pot) || glazeParts.at(glaze) < size) {
                return NOT_POSSIBLE;
            }
            glazeParts.add(glaze, -size);
            pots.kinds.write(pot, GLAZED);
            pots.glazes.write(pot, glaze);
            return glazeParts.at(glaze);
        }

        int fillGlaze(int glaze, int parts) {
            if (!isGlaze(glaze)) {
                return NO_SUCH;
            }
            if (!isWithin(parts, 1, MOST_PARTS)) {
                return BAD_VALUE;
            }
            glazeParts.write(glaze, Math.min(glazeParts.at(glaze) + parts, MOST_PARTS));
            return glazeParts.at(glaze);
        }

        int handOver(int pot) {
            if (!pots.has(pot)) {
                return NO_SUCH;
            }
            if (!pots.isKind(pot, DONE) || !pots.isOnRack(pot)) {
                return NOT_POSSIBLE;
            }
            int fee = settings.at(FEE) * pots.sizes.at(pot);
            feesPaid.add(pots.pupils.at(pot), fee);
            pots.spots.write(pot, SPOT_AT_HOME);
            return fee;
        }

        private int nightsLacking(int pot) {
            return Math.max(settings.at(DRY) * pots.sizes.at(pot) - pots.nightsDried.at(pot), 0);
        }

        int nightsUntilDry(int pot) {
            if (!pots.has(pot)) {
                return NO_SUCH;
            }
            if (!pots.isKind(pot, CLAY)) {
                return 0;
            }
            if (pots.isInKiln(pot)) {
                return NOT_POSSIBLE;
            }
            int lacking = nightsLacking(pot);
            return pots.isBesideKiln(pot) ? (lacking + 1) / 2 : lacking;
        }

        // ---- the kiln

        int reasonAgainstLoading(int pot) {
            if (!pots.has(pot)) {
                return NO_SUCH;
            }
            if (!pots.isOnRack(pot)) {
                return 1;
            }
            boolean clay = pots.isKind(pot, CLAY);
            if (!clay && !pots.isKind(pot, GLAZED)) {
                return 2;
            }
            if (clay && nightsLacking(pot) > 0) {
                return 3;
            }
            if (pots.isKilnForOtherThan(pots.kinds.at(pot))) {
                return 4;
            }
            return pots.sizesInKiln() + pots.sizes.at(pot) > settings.at(KILN) ? 5 : 0;
        }

        private int loadable() {
            int set = 0;
            for (int pot = 0; pot < pots.soFar; pot++) {
                if (reasonAgainstLoading(pot) == 0) {
                    set |= 1 << pot;
                }
            }
            return set;
        }

        int moveIntoKiln(int pot) {
            int reason = reasonAgainstLoading(pot);
            if (reason != 0) {
                return reason == NO_SUCH ? NO_SUCH : NOT_POSSIBLE;
            }
            pots.spots.write(pot, SPOT_IN_KILN);
            return pots.sizesInKiln();
        }

        int moveOutOfKiln(int pot) {
            if (!pots.has(pot)) {
                return NO_SUCH;
            }
            if (!pots.isInKiln(pot)) {
                return NOT_POSSIBLE;
            }
            if (pots.freePlaces() == 0) {
                return TOO_MANY;
            }
            pots.putOnRack(pot);
            return pots.spots.at(pot) / PLACES_OF_RACK;
        }

        /** The pots in the kiln that a firing makes to be of a kind. */
        private int firedTo(int kind, int heat) {
            int set = 0;
            for (int pot = 0; pot < pots.soFar; pot++) {
                if (pots.isInKiln(pot) && pots.kindFired(pot, heat, settings.at(LIMIT)) == kind) {
                    set |= 1 << pot;
                }
            }
            return set;
        }

        int fireKiln(int heat) {
            if (!isHeat(heat)) {
                return BAD_VALUE;
            }
            int inKiln = pots.inKiln();
            if (inKiln == 0) {
                return NOT_POSSIBLE;
            }
            int breaking = Integer.bitCount(firedTo(BROKEN, heat));
            if (Integer.bitCount(inKiln) - breaking > pots.freePlaces()) {
                return TOO_MANY;
            }
            for (int pot = 0; pot < pots.soFar; pot++) {
                if (pots.isInKiln(pot)) {
                    firePot(pot, heat);
                }
            }
            firings++;
            return breaking;
        }

        private void firePot(int pot, int heat) {
            pots.kinds.write(pot, pots.kindFired(pot, heat, settings.at(LIMIT)));
            pots.firings.add(pot, 1);
            if (pots.isKind(pot, BROKEN)) {
                pots.spots.write(pot, SPOT_AT_HOME);
            } else {
                pots.putOnRack(pot);
            }
        }

        int outcomeOfFiring(int heat, int what) {
            if (!isHeat(heat)) {
                return BAD_VALUE;
            }
            switch (what) {
                case 0: return firedTo(BROKEN, heat);
                case 1: return firedTo(BISCUIT, heat);
                case 2: return firedTo(DONE, heat);
                // Only clay and glazed pots are in the kiln, and no pot comes to be one of these by a firing.
                case 3: return firedTo(CLAY, heat) | firedTo(GLAZED, heat);
                default: return BAD_VALUE;
            }
        }

        /** Ranks a heat: one pot more that comes on outweighs all pots that may break. */
        private int scoreOf(int heat) {
            int score = 0;
            for (int pot = 0; pot < pots.soFar; pot++) {
                if (!pots.isInKiln(pot)) {
                    continue;
                }
                int kind = pots.kindFired(pot, heat, settings.at(LIMIT));
                if (kind == BROKEN) {
                    score--;
                } else if (kind == pots.kinds.at(pot) + 1) {
                    score += MOST_POTS + 1;
                }
            }
            return score;
        }

        int heatForMostPots() {
            if (pots.inKiln() == 0) {
                return NONE;
            }
            int best = LOWEST_HEAT;
            int bestScore = scoreOf(best);
            for (int heat = LOWEST_HEAT + 1; heat <= HIGHEST_HEAT; heat++) {
                int score = scoreOf(heat);
                if (score > bestScore) {
                    best = heat;
                    bestScore = score;
                }
            }
            return best;
        }

        // ---- what there is

        int factOfPot(int pot, int what) {
            if (!pots.has(pot)) {
                return NO_SUCH;
            }
            boolean onRack = pots.isOnRack(pot);
            boolean bearsGlaze = pots.isKind(pot, GLAZED) || pots.isKind(pot, DONE);
            int timesFired = pots.firings.at(pot);
            switch (what) {
                case 0: return pots.pupils.at(pot);
                case 1: return pots.sizes.at(pot);
                case 2: return pots.kinds.at(pot);
                case 3: return onRack ? 0 : pots.isInKiln(pot) ? 1 : 2;
                case 4: return onRack ? pots.spots.at(pot) : NONE;
                case 5: return pots.nightsDried.at(pot);
                case 6: return timesFired == 0 ? NONE : pots.faults.at(pot);
                case 7: return bearsGlaze ? pots.glazes.at(pot) : NONE;
                case 8: return timesFired;
                default: return BAD_VALUE;
            }
        }

        int factOfPupil(int pupil, int what) {
            if (!hasPupil(pupil)) {
                return NO_SUCH;
            }
            switch (what) {
                case 0: return calendar.wheelOf(pupil, 0);
                case 1: return pots.thrownBy(pupil);
                case 2: return pots.thrownBy(pupil) & pots.ofKind(DONE);
                case 3: return pots.thrownBy(pupil) & pots.ofKind(BROKEN);
                case 4: return feesPaid.at(pupil);
                case 5: return calendar.bookingsOf(pupil);
                default: return BAD_VALUE;
            }
        }

        /** What count() tells, but for the pad and the history. */
        int figure(int what) {
            if (isWithin(what, 11, 14)) {
                return glazeParts.at(what - 11);
            }
            if (isWithin(what, 15, 18)) {
                return settings.at(what - 15);
            }
            switch (what) {
                case 0: return calendar.night;
                case 1: return pupils;
                case 2: return pots.soFar;
                case 3: return pots.onRacks();
                case 4: return pots.inKiln();
                case 5: return pots.sizesInKiln();
                case 6: return pots.freePlaces();
                case 7: return loadable();
                case 8: return firings;
                case 9: return Integer.bitCount(pots.ofKind(BROKEN));
                case 10: return feesPaid.sum();
                default: return BAD_VALUE;
            }
        }
    }

    /** The states before the latest changes: a ring, with room for one more that is about to be recorded. */
    private static final class History {
        private static final int RING = STATES_KEPT + 1;

        private final Workshop[] states = new Workshop[RING];
        private int next;
        private int kept;

        History() {
            for (int i = 0; i < states.length; i++) {
                states[i] = new Workshop();
            }
        }

        int kept() {
            return kept;
        }

        private Workshop stateAt(int index) {
            return index >= 0 && index < states.length ? states[index] : null;
        }

        /** Copies the state ahead of each try of a change; only record() makes it count. */
        void prepare(Workshop before) {
            Workshop state = stateAt(next);
            if (state != null) {
                state.copyFrom(before);
            }
        }

        int record(int answer) {
            if (answer >= 0) {
                next = (next + 1) % RING;
                kept = Math.min(kept + 1, STATES_KEPT);
            }
            return answer;
        }

        int stepBack(Workshop now) {
            if (kept == 0 || now == null) {
                return NOT_POSSIBLE;
            }
            next = (next + RING - 1) % RING;
            kept--;
            now.copyFrom(stateAt(next));
            return kept;
        }
    }

    /** The text of the orders, and the order that was read last. Where reading gets stuck, its place is the fault. */
    private static final class Pad {
        private static final int BITS_OF_CHARACTER = 8;
        private static final int CHARACTERS_AT_ONCE = 8;

        private final int[] codes = new int[PAD_LENGTH];
        private int length;
        private int place;
        private int kind;
        private int first;
        private int second;
        private int third;

        int length() {
            return length;
        }

        int kind() {
            return kind;
        }

        int first() {
            return first;
        }

        int second() {
            return second;
        }

        int third() {
            return third;
        }

        int clear() {
            int before = length;
            length = 0;
            return before;
        }

        int append(long characters) {
            int more = charactersIn(characters);
            if (more == 0) {
                return BAD_VALUE;
            }
            if (length + more > codes.length) {
                return TOO_MANY;
            }
            for (int fromLast = more - 1; fromLast >= 0 && length >= 0 && length < codes.length; fromLast--) {
                codes[length] = codeIn(characters, fromLast);
                length++;
            }
            return length;
        }

        private static int codeIn(long characters, int fromLast) {
            return (int) (characters >>> BITS_OF_CHARACTER * fromLast & 255L);
        }

        /** How many characters a number gives, 0 if it is none that may be appended. */
        private static int charactersIn(long characters) {
            for (int fromLast = 0; fromLast < CHARACTERS_AT_ONCE; fromLast++) {
                int code = codeIn(characters, fromLast);
                if (code == 0) {
                    return characters >>> BITS_OF_CHARACTER * fromLast == 0 ? fromLast : 0;
                }
                if (!isWithin(code, 33, 126)) {
                    return 0;
                }
            }
            return CHARACTERS_AT_ONCE;
        }

        // ---- reading

        int findFault() {
            rewind();
            for (int orders = 0; orders < PAD_LENGTH && readOrder(); orders++) {
                if (place == length) {
                    return NONE;
                }
                if (!skip(';')) {
                    return place;
                }
            }
            return place;
        }

        void rewind() {
            place = 0;
        }

        /** The code at the place, 0 behind the end: a code that no character has. */
        private int nextCode() {
            return place >= 0 && place < length && place < codes.length ? codes[place] : 0;
        }

        boolean skip(char character) {
            if (nextCode() != character) {
                return false;
            }
            place++;
            return true;
        }

        boolean readOrder() {
            kind = nextCode();
            first = 0;
            second = 0;
            third = 0;
            switch (kind) {
                case 'p': return skip('p');
                case 'b': return skip('b') && readBooking();
                case 't': return skip('t') && readThrow();
                case 'l': return skip('l') && readOneNumber();
                case 'f': return skip('f') && readOneNumber();
                case 'g': return skip('g') && readGlazing();
                case 'n': return skip('n') && readOneNumber();
                case 'h': return skip('h') && readOneNumber();
                default: return false;
            }
        }

        private boolean readBooking() {
            first = readDigit();
            if (first < 0) {
                return false;
            }
            second = readDigit();
            if (second < 0) {
                return false;
            }
            if (skip('+')) {
                third = readNumber();
            }
            return third >= 0;
        }

        private boolean readThrow() {
            first = readDigit();
            if (first < 0 || !skip('*')) {
                return false;
            }
            second = readDigit();
            return second >= 0;
        }

        private boolean readGlazing() {
            first = readNumber();
            if (first < 0 || !skip('.')) {
                return false;
            }
            second = readDigit();
            return second >= 0;
        }

        private boolean readOneNumber() {
            first = readNumber();
            return first >= 0;
        }

        /** Goes past the digit at the place; -1 if there is none. */
        private int readDigit() {
            int code = nextCode();
            if (!isWithin(code, '0', '9')) {
                return -1;
            }
            place++;
            return code - '0';
        }

        /** Stops behind a leading 0 and behind three digits: one digit more cannot stand there, whoever reads on. */
        private int readNumber() {
            int number = readDigit();
            for (int digits = 1; digits < DIGITS_OF_NUMBER && number > 0; digits++) {
                int digit = readDigit();
                if (digit < 0) {
                    return number;
                }
                number = 10 * number + digit;
            }
            return number;
        }
    }
}
