/** Promises 1 to 13: a new object, and the calls that are changes. */
public final class ChangesTest {
    public static void main(String[] args) {
        aNewObject();
        set();
        pupil();
        book();
        bookingsMoveWithTheNights();
        giveBack();
        throwPot();
        faultsAreDrawn();
        racksAreFilledFromTheLowestPlace();
        load();
        unload();
        fireClay();
        fireGlazed();
        firedPotsGoToRacksByNumber();
        glaze();
        fill();
        takeHome();
        pass();
        Checks.finish();
    }

    private static void aNewObject() {
        PotteryNights x = new PotteryNights();
        int[] due = {0, 0, 0, 0, 0, 0, 24, 0, 0, 0, 0, 20, 20, 20, 20, 2, 8, 120, 3, 0, 0};
        for (int what = 0; what < due.length; what++) {
            Checks.due("new: count(" + what + ")", x.count(what), due[what]);
        }
        Checks.due("new: ofPupil(0, 0)", x.ofPupil(0, 0), Checks.NO_SUCH);
        Checks.due("new: of(0, 0)", x.of(0, 0), Checks.NO_SUCH);
        Checks.due("new: booked(0, 0)", x.booked(0, 0), Checks.NONE);
        Checks.due("new: booked(4, 20)", x.booked(4, 20), Checks.NONE);
        Checks.due("new: restore(0)", x.restore(0), Checks.NOT_POSSIBLE);
        Checks.due("new: undo()", x.undo(), Checks.NOT_POSSIBLE);
    }

    private static void set() {
        PotteryNights x = new PotteryNights();
        int[][] ranges = {{1, 9, 2}, {3, 24, 8}, {100, 140, 120}, {0, 20, 3}};
        for (int setting = 0; setting < 4; setting++) {
            int s = setting;
            int least = ranges[s][0];
            int most = ranges[s][1];
            Checks.due("set(" + s + ", least)", x.set(s, least), ranges[s][2]);
            Checks.due("set(" + s + ", most)", x.set(s, most), least);
            Checks.due("count of the setting " + s, x.count(15 + s), most);
            Checks.refused(x, "set(" + s + ", too low)", Checks.BAD_VALUE, () -> x.set(s, least - 1));
            Checks.refused(x, "set(" + s + ", too high)", Checks.BAD_VALUE, () -> x.set(s, most + 1));
            Checks.due("set(" + s + ", the same)", x.set(s, most), most);
        }
        Checks.refused(x, "set(-1, 5)", Checks.BAD_VALUE, () -> x.set(-1, 5));
        Checks.refused(x, "set(4, 5)", Checks.BAD_VALUE, () -> x.set(4, 5));
        Checks.refused(x, "set(0, lowest int)", Checks.BAD_VALUE, () -> x.set(0, Integer.MIN_VALUE));
        Checks.refused(x, "set(highest int, 5)", Checks.BAD_VALUE, () -> x.set(Integer.MAX_VALUE, 5));
    }

    private static void pupil() {
        PotteryNights x = new PotteryNights();
        for (int number = 0; number < 10; number++) {
            Checks.due("pupil()", x.pupil(), number);
        }
        Checks.refused(x, "pupil() of 10", Checks.TOO_MANY, x::pupil);
        Checks.due("count(1)", x.count(1), 10);
    }

    private static void book() {
        PotteryNights x = Scenes.withPupils(2);
        Checks.due("book(0, 4, 20)", x.book(0, 4, 20), 20);
        Checks.due("booked(4, 20)", x.booked(4, 20), 0);
        Checks.due("booked(4, 19)", x.booked(4, 19), Checks.NONE);
        Checks.refused(x, "book: the wheel is booked", Checks.NOT_POSSIBLE, () -> x.book(1, 4, 20));
        Checks.refused(x, "book: the pupil is booked", Checks.NOT_POSSIBLE, () -> x.book(0, 3, 20));
        Checks.refused(x, "book: both at once", Checks.NOT_POSSIBLE, () -> x.book(0, 4, 20));
        Checks.due("book(1, 3, 20)", x.book(1, 3, 20), 20);
        Checks.due("book(0, 4, 19)", x.book(0, 4, 19), 19);
        Checks.refused(x, "book(2, 0, 0)", Checks.NO_SUCH, () -> x.book(2, 0, 0));
        Checks.refused(x, "book(-1, 0, 0)", Checks.NO_SUCH, () -> x.book(-1, 0, 0));
        Checks.refused(x, "book(0, 5, 0)", Checks.NO_SUCH, () -> x.book(0, 5, 0));
        Checks.refused(x, "book(0, -1, 0)", Checks.NO_SUCH, () -> x.book(0, -1, 0));
        Checks.refused(x, "book(0, 0, -1)", Checks.BAD_VALUE, () -> x.book(0, 0, -1));
        Checks.refused(x, "book(0, 0, 21)", Checks.BAD_VALUE, () -> x.book(0, 0, 21));
        Checks.refused(x, "book(0, 5, 21): NO_SUCH is first", Checks.NO_SUCH, () -> x.book(0, 5, 21));
        Checks.refused(x, "book(9, 0, -1): NO_SUCH is first", Checks.NO_SUCH, () -> x.book(9, 0, -1));
        Checks.refused(x, "book(0, 0, highest int)", Checks.BAD_VALUE, () -> x.book(0, 0, Integer.MAX_VALUE));
    }

    private static void bookingsMoveWithTheNights() {
        PotteryNights x = Scenes.withPupils(2);
        x.book(0, 1, 0);
        x.book(1, 2, 5);
        x.book(0, 3, 20);
        Checks.due("pass(1)", x.pass(1), 1);
        Checks.due("booked(1, 20) behind a booked night", x.booked(1, 20), Checks.NONE);
        Checks.due("booked(2, 4)", x.booked(2, 4), 1);
        Checks.due("booked(3, 19)", x.booked(3, 19), 0);
        Checks.due("book(0, 1, 20)", x.book(0, 1, 20), 21);
        Checks.due("pass(20)", x.pass(20), 21);
        Checks.due("booked(1, 0)", x.booked(1, 0), 0);
        Checks.due("booked(3, 20): night 20 is over", x.booked(3, 20), Checks.NONE);
        Checks.due("booked(2, 5)", x.booked(2, 5), Checks.NONE);
        for (int round = 0; round < 48; round++) {
            x.pass(20);
        }
        Checks.due("pass(18)", x.pass(18), 999);
        Checks.due("book(0, 0, 20) in the last night", x.book(0, 0, 20), 1019);
    }

    private static void giveBack() {
        PotteryNights x = Scenes.withPupils(2);
        x.book(0, 3, 0);
        x.book(0, 2, 20);
        x.book(1, 4, 7);
        Checks.refused(x, "giveBack(2, 0)", Checks.NO_SUCH, () -> x.giveBack(2, 0));
        Checks.refused(x, "giveBack(-1, 99): NO_SUCH is first", Checks.NO_SUCH, () -> x.giveBack(-1, 99));
        Checks.refused(x, "giveBack(0, -1)", Checks.BAD_VALUE, () -> x.giveBack(0, -1));
        Checks.refused(x, "giveBack(0, 21)", Checks.BAD_VALUE, () -> x.giveBack(0, 21));
        Checks.refused(x, "giveBack(0, 7): another's", Checks.NOT_POSSIBLE, () -> x.giveBack(0, 7));
        Checks.due("giveBack(0, 20)", x.giveBack(0, 20), 2);
        Checks.refused(x, "giveBack(0, 20) again", Checks.NOT_POSSIBLE, () -> x.giveBack(0, 20));
        Checks.due("booked(2, 20)", x.booked(2, 20), Checks.NONE);
        Checks.due("giveBack(0, 0)", x.giveBack(0, 0), 3);
        x.book(0, 1, 0);
        x.book(0, 1, 1);
        x.throwPot(0, 1);
        Checks.refused(x, "giveBack(0, 0) behind a pot", Checks.NOT_POSSIBLE, () -> x.giveBack(0, 0));
        Checks.due("giveBack(0, 1) behind a pot", x.giveBack(0, 1), 1);
        x.book(0, 1, 1);
        x.pass(1);
        Checks.due("giveBack(0, 0) in the night behind", x.giveBack(0, 0), 1);
    }

    private static void throwPot() {
        PotteryNights x = Scenes.withPupils(2);
        Checks.refused(x, "throwPot(2, 1)", Checks.NO_SUCH, () -> x.throwPot(2, 1));
        Checks.refused(x, "throwPot(-1, 9): NO_SUCH is first", Checks.NO_SUCH, () -> x.throwPot(-1, 9));
        Checks.refused(x, "throwPot(0, 0): BAD_VALUE is first", Checks.BAD_VALUE, () -> x.throwPot(0, 0));
        Checks.refused(x, "throwPot(0, 4)", Checks.BAD_VALUE, () -> x.throwPot(0, 4));
        x.book(0, 0, 1);
        Checks.refused(x, "throwPot without a wheel tonight", Checks.NOT_POSSIBLE, () -> x.throwPot(0, 1));
        x.book(0, 0, 0);
        Checks.due("throwPot(0, 3)", x.throwPot(0, 3), 0);
        Checks.refused(x, "throwPot twice a night", Checks.NOT_POSSIBLE, () -> x.throwPot(0, 1));
        int[] due = {0, 3, 0, 0, 0, 0, Checks.NONE, Checks.NONE, 0};
        for (int what = 0; what < due.length; what++) {
            Checks.due("of(0, " + what + ")", x.of(0, what), due[what]);
        }
        x.pass(1);
        Checks.due("throwPot(0, 1) in the next night", x.throwPot(0, 1), 1);

        PotteryNights full = Scenes.withAllPots();
        Checks.due("count(2)", full.count(2), 20);
        Checks.refused(full, "throwPot of 20, thrown tonight", Checks.NOT_POSSIBLE, () -> full.throwPot(0, 1));
        Checks.refused(full, "throwPot of 20, no wheel", Checks.NOT_POSSIBLE, () -> full.throwPot(5, 1));
        full.book(0, 0, 1);
        full.pass(1);
        Checks.refused(full, "throwPot of 20", Checks.TOO_MANY, () -> full.throwPot(0, 1));
        Checks.refused(full, "throwPot of 20, bad size", Checks.BAD_VALUE, () -> full.throwPot(0, 4));
    }

    private static void faultsAreDrawn() {
        PotteryNights x = Scenes.withAllPots();
        x.set(PotteryNights.KILN, 24);
        x.set(PotteryNights.LIMIT, 140);
        x.pass(2);
        for (int pot = 0; pot < 20; pot++) {
            Checks.due("load of one more", x.load(pot), pot + 1);
            Checks.due("the fault is hidden", x.of(pot, 6), Checks.NONE);
        }
        Checks.due("fire(80)", x.fire(80), 0);
        int draw = 1;
        for (int pot = 0; pot < 20; pot++) {
            draw = (75 * draw + 74) % 65537;
            Checks.due("of(" + pot + ", 6)", x.of(pot, 6), draw / 8 % 10);
        }
        int[] first = {8, 6, 3, 5, 0};
        for (int pot = 0; pot < first.length; pot++) {
            Checks.due("of(" + pot + ", 6), told", x.of(pot, 6), first[pot]);
        }
    }

    private static void racksAreFilledFromTheLowestPlace() {
        PotteryNights x = Scenes.withAllPots();
        for (int pot = 0; pot < 20; pot++) {
            Checks.due("of(" + pot + ", 4)", x.of(pot, 4), pot);
        }
        Checks.due("count(6)", x.count(6), 4);
        x.pass(2);
        x.load(12);
        x.load(3);
        Checks.due("unload(12) to the lowest place", x.unload(12), 0);
        Checks.due("of(12, 4)", x.of(12, 4), 3);
        Checks.due("unload(3)", x.unload(3), 1);
        Checks.due("of(3, 4)", x.of(3, 4), 12);
        x.load(17);
        Checks.due("unload(17)", x.unload(17), 2);
        Checks.due("of(17, 4)", x.of(17, 4), 17);
    }

    private static void load() {
        PotteryNights x = Scenes.withPupils(5);
        Scenes.throwTonight(x, 3, 3, 3, 2, 1);
        Checks.refused(x, "load(5)", Checks.NO_SUCH, () -> x.load(5));
        Checks.refused(x, "load(-1)", Checks.NO_SUCH, () -> x.load(-1));
        Checks.refused(x, "load of wet clay", Checks.NOT_POSSIBLE, () -> x.load(0));
        x.pass(3);
        Checks.due("load(0)", x.load(0), 3);
        Checks.refused(x, "load of a loaded one", Checks.NOT_POSSIBLE, () -> x.load(0));
        Checks.due("load(1)", x.load(1), 6);
        Checks.refused(x, "load of too much", Checks.NOT_POSSIBLE, () -> x.load(2));
        Checks.due("load(3)", x.load(3), 8);
        Checks.refused(x, "load into a full kiln", Checks.NOT_POSSIBLE, () -> x.load(4));
        Checks.due("of(0, 3)", x.of(0, 3), 1);
        Checks.due("of(0, 4)", x.of(0, 4), Checks.NONE);
        x.fire(100);
        Checks.refused(x, "load of biscuit", Checks.NOT_POSSIBLE, () -> x.load(0));
        x.glaze(0, 0);
        x.load(4);
        Checks.refused(x, "load of a glazed one to clay", Checks.NOT_POSSIBLE, () -> x.load(0));
        x.unload(4);
        Checks.due("load of a glazed one", x.load(0), 3);
        Checks.refused(x, "load of clay to a glazed one", Checks.NOT_POSSIBLE, () -> x.load(4));
    }

    private static void unload() {
        PotteryNights x = Scenes.withDryPots(1, 1);
        Checks.refused(x, "unload(2)", Checks.NO_SUCH, () -> x.unload(2));
        Checks.refused(x, "unload(-1)", Checks.NO_SUCH, () -> x.unload(-1));
        Checks.refused(x, "unload of one on a rack", Checks.NOT_POSSIBLE, () -> x.unload(0));
        x.load(0);
        x.load(1);
        Checks.due("unload(1)", x.unload(1), 0);
        Checks.due("of(1, 4)", x.of(1, 4), 0);
        Checks.due("count(4)", x.count(4), 1);
        Checks.due("of(1, 8): unloaded is not fired", x.of(1, 8), 0);
    }

    private static void fireClay() {
        PotteryNights x = Scenes.withDryPots(1, 1, 1);
        Checks.refused(x, "fire(79): BAD_VALUE is first", Checks.BAD_VALUE, () -> x.fire(79));
        Checks.refused(x, "fire(141)", Checks.BAD_VALUE, () -> x.fire(141));
        Checks.refused(x, "fire of nothing", Checks.NOT_POSSIBLE, () -> x.fire(80));
        x.load(0);
        x.load(1);
        Checks.due("fire(94)", x.fire(94), 0);
        Checks.due("clay at 94", x.of(0, 2), 0);
        Checks.due("of(0, 8)", x.of(0, 8), 1);
        Checks.due("of(2, 8): not in the kiln", x.of(2, 8), 0);
        Checks.due("of(2, 6): not fired", x.of(2, 6), Checks.NONE);
        Checks.due("it stays dry", x.why(0), 0);
        x.load(0);
        Checks.due("fire(95)", x.fire(95), 0);
        Checks.due("biscuit at 95", x.of(0, 2), 1);
        Checks.due("count(8)", x.count(8), 2);
        Checks.due("of(0, 8) then", x.of(0, 8), 2);

        PotteryNights edge = Scenes.withDryPots(1, 1, 1);
        edge.load(0);
        edge.load(1);
        edge.load(2);
        Checks.due("fire(112): 112 + 8 is not more than 120", edge.ifFired(112, 0), 0);
        Checks.due("fire(113): the fault 8 breaks", edge.fire(113), 1);
        Checks.due("of(0, 2)", edge.of(0, 2), 4);
        Checks.due("of(0, 3)", edge.of(0, 3), 2);
        Checks.due("of(0, 4)", edge.of(0, 4), Checks.NONE);
        Checks.due("of(0, 6)", edge.of(0, 6), 8);
        Checks.due("of(0, 8)", edge.of(0, 8), 1);
        Checks.due("of(1, 2)", edge.of(1, 2), 1);
        Checks.due("count(9)", edge.count(9), 1);
        edge.set(PotteryNights.DRY, 9);
        Checks.due("dryIn of a broken pot", edge.dryIn(0), 0);
        Checks.refused(edge, "load of a broken pot", Checks.NOT_POSSIBLE, () -> edge.load(0));
    }

    private static void fireGlazed() {
        int[] heats = {99, 100, 110, 111, 112, 113};
        int[] kinds = {2, 3, 3, 1, 1, 4};
        for (int i = 0; i < heats.length; i++) {
            PotteryNights x = Scenes.withGlazedInKiln(0);
            String at = " of glaze 0 at " + heats[i];
            Checks.due("fire" + at, x.fire(heats[i]), kinds[i] == 4 ? 1 : 0);
            Checks.due("kind" + at, x.of(0, 2), kinds[i]);
            Checks.due("glaze shown" + at, x.of(0, 7), kinds[i] == 2 || kinds[i] == 3 ? 0 : Checks.NONE);
        }
        for (int glaze = 0; glaze < 4; glaze++) {
            PotteryNights x = Scenes.withGlazedInKiln(glaze);
            x.set(PotteryNights.LIMIT, 140);
            int heat = 100 + 5 * glaze;
            Checks.due("glaze " + glaze + " one below", x.ifFired(heat - 1, 3), 1);
            Checks.due("glaze " + glaze + " lowest", x.ifFired(heat, 2), 1);
            Checks.due("glaze " + glaze + " highest", x.ifFired(heat + 10, 2), 1);
            Checks.due("glaze " + glaze + " one above", x.ifFired(heat + 11, 1), 1);
        }
        PotteryNights x = Scenes.withGlazedInKiln(0);
        x.fire(111);
        Checks.due("glaze again what ran", x.glaze(0, 1), 19);
        Checks.due("load again what ran", x.load(0), 1);
        Checks.due("fire again what ran", x.fire(105), 0);
        Checks.due("done then", x.of(0, 2), 3);
        Checks.due("fired three times", x.of(0, 8), 3);
    }

    private static void firedPotsGoToRacksByNumber() {
        PotteryNights x = Scenes.withAllPots();
        x.set(PotteryNights.KILN, 24);
        x.pass(2);
        for (int pot : new int[] {15, 9, 4, 1}) {
            x.load(pot);
        }
        x.load(0);
        x.unload(0);
        Checks.due("of(0, 4)", x.of(0, 4), 0);
        x.fire(80);
        int[] pots = {1, 4, 9, 15};
        for (int pot : pots) {
            Checks.due("fired pots to the lowest places: of(" + pot + ", 4)", x.of(pot, 4), pot);
        }
        x.load(1);
        x.load(15);
        x.fire(80);
        Checks.due("of(1, 4)", x.of(1, 4), 1);
        Checks.due("of(15, 4)", x.of(15, 4), 15);
        x.load(15);
        x.load(0);
        x.unload(15);
        x.load(15);
        x.load(5);
        x.fire(80);
        Checks.due("of(0, 4)", x.of(0, 4), 0);
        Checks.due("of(5, 4)", x.of(5, 4), 5);
        Checks.due("of(15, 4)", x.of(15, 4), 15);

        PotteryNights breaking = Scenes.withDryPots(1, 1, 1);
        breaking.load(2);
        breaking.load(1);
        breaking.load(0);
        Checks.due("fire(113)", breaking.fire(113), 1);
        Checks.due("a broken pot takes no place: of(1, 4)", breaking.of(1, 4), 0);
        Checks.due("of(2, 4)", breaking.of(2, 4), 1);
        Checks.due("count(6)", breaking.count(6), 22);
    }

    private static void glaze() {
        PotteryNights x = Scenes.withBiscuits(3, 2, 1);
        Checks.refused(x, "glaze(3, 0)", Checks.NO_SUCH, () -> x.glaze(3, 0));
        Checks.refused(x, "glaze(-1, 0)", Checks.NO_SUCH, () -> x.glaze(-1, 0));
        Checks.refused(x, "glaze(0, 4)", Checks.NO_SUCH, () -> x.glaze(0, 4));
        Checks.refused(x, "glaze(0, -1)", Checks.NO_SUCH, () -> x.glaze(0, -1));
        Checks.due("glaze(0, 3)", x.glaze(0, 3), 17);
        Checks.due("of(0, 2)", x.of(0, 2), 2);
        Checks.due("of(0, 7)", x.of(0, 7), 3);
        Checks.refused(x, "glaze of a glazed one", Checks.NOT_POSSIBLE, () -> x.glaze(0, 3));
        Checks.due("glaze(1, 3)", x.glaze(1, 3), 15);
        Checks.due("count(14)", x.count(14), 15);
        Checks.due("count(11)", x.count(11), 20);

        PotteryNights clay = Scenes.withDryPots(1);
        Checks.refused(clay, "glaze of clay", Checks.NOT_POSSIBLE, () -> clay.glaze(0, 0));

        PotteryNights few = Scenes.withBiscuits(3);
        for (int left = 17; left >= 2; left -= 3) {
            Checks.due("glaze(0, 0)", few.glaze(0, 0), left);
            few.load(0);
            few.fire(111);
        }
        Checks.refused(few, "glaze with too few parts", Checks.NOT_POSSIBLE, () -> few.glaze(0, 0));
        few.fill(0, 1);
        Checks.due("glaze with just enough parts", few.glaze(0, 0), 0);
    }

    private static void fill() {
        PotteryNights x = new PotteryNights();
        Checks.due("fill(0, 1)", x.fill(0, 1), 21);
        Checks.due("fill(3, 78)", x.fill(3, 78), 98);
        Checks.due("fill(3, 2)", x.fill(3, 2), 99);
        Checks.due("fill(2, 99)", x.fill(2, 99), 99);
        Checks.due("fill(2, 1) of 99", x.fill(2, 1), 99);
        Checks.due("count(12)", x.count(12), 20);
        Checks.refused(x, "fill(4, 1)", Checks.NO_SUCH, () -> x.fill(4, 1));
        Checks.refused(x, "fill(-1, 0): NO_SUCH is first", Checks.NO_SUCH, () -> x.fill(-1, 0));
        Checks.refused(x, "fill(0, 0)", Checks.BAD_VALUE, () -> x.fill(0, 0));
        Checks.refused(x, "fill(0, 100)", Checks.BAD_VALUE, () -> x.fill(0, 100));
        Checks.refused(x, "fill(0, highest int)", Checks.BAD_VALUE, () -> x.fill(0, Integer.MAX_VALUE));
    }

    private static void takeHome() {
        PotteryNights x = Scenes.withBiscuits(3, 1);
        Checks.refused(x, "takeHome(2)", Checks.NO_SUCH, () -> x.takeHome(2));
        Checks.refused(x, "takeHome(-1)", Checks.NO_SUCH, () -> x.takeHome(-1));
        Checks.refused(x, "takeHome of biscuit", Checks.NOT_POSSIBLE, () -> x.takeHome(0));
        x.glaze(0, 0);
        x.glaze(1, 0);
        Checks.refused(x, "takeHome of a glazed one", Checks.NOT_POSSIBLE, () -> x.takeHome(0));
        x.load(0);
        x.load(1);
        Checks.refused(x, "takeHome from the kiln", Checks.NOT_POSSIBLE, () -> x.takeHome(0));
        x.fire(100);
        Checks.due("takeHome(0)", x.takeHome(0), 9);
        Checks.refused(x, "takeHome twice", Checks.NOT_POSSIBLE, () -> x.takeHome(0));
        Checks.due("of(0, 2)", x.of(0, 2), 3);
        Checks.due("of(0, 3)", x.of(0, 3), 2);
        Checks.due("of(0, 4)", x.of(0, 4), Checks.NONE);
        Checks.due("of(0, 7)", x.of(0, 7), 0);
        Checks.due("count(6)", x.count(6), 23);
        x.set(PotteryNights.FEE, 20);
        Checks.due("takeHome(1)", x.takeHome(1), 20);
        Checks.due("ofPupil(0, 4)", x.ofPupil(0, 4), 9);
        Checks.due("ofPupil(1, 4)", x.ofPupil(1, 4), 20);
        Checks.due("count(10)", x.count(10), 29);

        PotteryNights free = Scenes.withGlazedInKiln(0);
        free.fire(100);
        free.set(PotteryNights.FEE, 0);
        Checks.due("takeHome without a fee", free.takeHome(0), 0);
    }

    private static void pass() {
        PotteryNights x = Scenes.withAllPots();
        Checks.refused(x, "pass(0)", Checks.BAD_VALUE, () -> x.pass(0));
        Checks.refused(x, "pass(21)", Checks.BAD_VALUE, () -> x.pass(21));
        Checks.refused(x, "pass(-1)", Checks.BAD_VALUE, () -> x.pass(-1));
        Checks.due("of(0, 5): three nights beside the kiln", x.of(0, 5), 6);
        Checks.due("of(7, 5): two nights there", x.of(7, 5), 4);
        Checks.due("of(8, 5): two nights on the rack 1", x.of(8, 5), 2);
        Checks.due("of(19, 5)", x.of(19, 5), 0);
        x.load(0);
        Checks.due("pass(20)", x.pass(20), 23);
        Checks.due("of(0, 5) in the kiln", x.of(0, 5), 6);
        Checks.due("of(16, 5) on the rack 2", x.of(16, 5), 20);
        Checks.due("of(1, 5)", x.of(1, 5), 46);
        x.fire(100);
        x.pass(1);
        Checks.due("of(0, 5) of biscuit", x.of(0, 5), 6);

        PotteryNights late = new PotteryNights();
        for (int round = 0; round < 49; round++) {
            late.pass(20);
        }
        Checks.due("pass(18)", late.pass(18), 998);
        Checks.refused(late, "pass(2) from 998", Checks.NOT_POSSIBLE, () -> late.pass(2));
        Checks.refused(late, "pass(21) from 998: BAD_VALUE is first", Checks.BAD_VALUE, () -> late.pass(21));
        Checks.due("pass(1) from 998", late.pass(1), 999);
        Checks.refused(late, "pass(1) from 999", Checks.NOT_POSSIBLE, () -> late.pass(1));
    }
}
