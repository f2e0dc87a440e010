/** Promises 14 to 22: what there is, and what would be; the changes' tests look at much of it, too. */
public final class QuestionsTest {
    public static void main(String[] args) {
        of();
        ofPupil();
        booked();
        count();
        why();
        dryIn();
        ifFired();
        bestHeat();
        firstFree();
        nothingChanges();
        Checks.finish();
    }

    private static void of() {
        PotteryNights x = Scenes.withBiscuits(1, 2, 3);
        x.glaze(1, 2);
        x.load(1);
        int[] due = {1, 2, 2, 1, Checks.NONE, 6, 6, 2, 1};
        for (int what = 0; what < due.length; what++) {
            Checks.due("of(1, " + what + ")", x.of(1, what), due[what]);
        }
        x.fire(110);
        Checks.due("of(1, 7) of a done one", x.of(1, 7), 2);
        Checks.due("of(1, 4) on a rack again", x.of(1, 4), 1);
        Checks.due("of(1, 8)", x.of(1, 8), 2);
        Checks.due("of(0, 7) of biscuit", x.of(0, 7), Checks.NONE);
        Checks.due("of(3, 0)", x.of(3, 0), Checks.NO_SUCH);
        Checks.due("of(-1, 0)", x.of(-1, 0), Checks.NO_SUCH);
        Checks.due("of(3, 9): NO_SUCH is first", x.of(3, 9), Checks.NO_SUCH);
        Checks.due("of(0, 9)", x.of(0, 9), Checks.BAD_VALUE);
        Checks.due("of(0, -1)", x.of(0, -1), Checks.BAD_VALUE);
        Checks.due("of(highest int, 0)", x.of(Integer.MAX_VALUE, 0), Checks.NO_SUCH);
        Checks.due("of(20, 0)", Scenes.withAllPots().of(20, 0), Checks.NO_SUCH);

        PotteryNights broken = Scenes.withGlazedInKiln(3);
        broken.fire(115);
        Checks.due("of(0, 2) of a broken one", broken.of(0, 2), 4);
        Checks.due("of(0, 7) of a broken one", broken.of(0, 7), Checks.NONE);
    }

    private static void ofPupil() {
        PotteryNights x = Scenes.withPupils(4);
        x.set(PotteryNights.DRY, 1);
        Scenes.throwTonight(x, 1, 1, 1);
        x.pass(1);
        Scenes.throwTonight(x, 1, 1);
        Checks.due("ofPupil(0, 0)", x.ofPupil(0, 0), 0);
        Checks.due("ofPupil(1, 0)", x.ofPupil(1, 0), 1);
        Checks.due("ofPupil(2, 0)", x.ofPupil(2, 0), Checks.NONE);
        Checks.due("ofPupil(0, 1)", x.ofPupil(0, 1), 0b01001);
        Checks.due("ofPupil(1, 1)", x.ofPupil(1, 1), 0b10010);
        Checks.due("ofPupil(2, 1)", x.ofPupil(2, 1), 0b00100);
        Checks.due("ofPupil(3, 1)", x.ofPupil(3, 1), 0);
        x.pass(1);
        for (int pot = 0; pot < 5; pot++) {
            x.load(pot);
        }
        Checks.due("fire(113): 8 breaks", x.fire(113), 1);
        x.glaze(3, 0);
        x.glaze(4, 0);
        x.load(3);
        x.load(4);
        x.fire(100);
        Checks.due("ofPupil(0, 2)", x.ofPupil(0, 2), 0b01000);
        Checks.due("ofPupil(0, 3)", x.ofPupil(0, 3), 0b00001);
        Checks.due("ofPupil(1, 2)", x.ofPupil(1, 2), 0b10000);
        Checks.due("ofPupil(1, 3)", x.ofPupil(1, 3), 0);
        Checks.due("takeHome(3)", x.takeHome(3), 3);
        Checks.due("ofPupil(0, 2) at home", x.ofPupil(0, 2), 0b01000);
        Checks.due("ofPupil(0, 4)", x.ofPupil(0, 4), 3);
        Checks.due("ofPupil(1, 4)", x.ofPupil(1, 4), 0);
        Checks.due("ofPupil(0, 5)", x.ofPupil(0, 5), 0);
        x.book(0, 0, 0);
        x.book(0, 4, 1);
        x.book(0, 2, 20);
        x.book(1, 3, 20);
        Checks.due("ofPupil(0, 5) of three", x.ofPupil(0, 5), 3);
        x.pass(1);
        Checks.due("ofPupil(0, 5) of two", x.ofPupil(0, 5), 2);
        Checks.due("ofPupil(0, 0) of a booking ahead", x.ofPupil(0, 0), 4);
        Checks.due("ofPupil(4, 0)", x.ofPupil(4, 0), Checks.NO_SUCH);
        Checks.due("ofPupil(-1, 6): NO_SUCH is first", x.ofPupil(-1, 6), Checks.NO_SUCH);
        Checks.due("ofPupil(0, 6)", x.ofPupil(0, 6), Checks.BAD_VALUE);
        Checks.due("ofPupil(0, -1)", x.ofPupil(0, -1), Checks.BAD_VALUE);
    }

    private static void booked() {
        PotteryNights x = Scenes.withPupils(2);
        x.book(1, 4, 0);
        x.book(0, 0, 20);
        Checks.due("booked(4, 0)", x.booked(4, 0), 1);
        Checks.due("booked(0, 20)", x.booked(0, 20), 0);
        Checks.due("booked(3, 0)", x.booked(3, 0), Checks.NONE);
        Checks.due("booked(5, 0)", x.booked(5, 0), Checks.NO_SUCH);
        Checks.due("booked(-1, 21): NO_SUCH is first", x.booked(-1, 21), Checks.NO_SUCH);
        Checks.due("booked(0, 21)", x.booked(0, 21), Checks.BAD_VALUE);
        Checks.due("booked(0, -1)", x.booked(0, -1), Checks.BAD_VALUE);
    }

    private static void count() {
        PotteryNights x = Scenes.withDryPots(3, 2, 1, 1);
        x.set(PotteryNights.KILN, 6);
        x.load(1);
        x.load(2);
        int[] due = {3, 4, 4, 0b1001, 0b0110, 3, 22, 0b1001, 0, 0, 0, 20, 20, 20, 20, 2, 6, 120, 3};
        for (int what = 0; what < due.length; what++) {
            Checks.due("count(" + what + ")", x.count(what), due[what]);
        }
        x.set(PotteryNights.KILN, 5);
        Checks.due("count(7) with less room", x.count(7), 0b1000);
        x.fire(115);
        Checks.due("count(8)", x.count(8), 1);
        Checks.due("count(9): the fault 6 breaks", x.count(9), 1);
        Checks.due("count(3)", x.count(3), 0b1101);
        Checks.due("count(4)", x.count(4), 0);
        x.fill(0, 1);
        x.fill(1, 2);
        x.fill(2, 3);
        x.fill(3, 4);
        for (int glaze = 0; glaze < 4; glaze++) {
            Checks.due("count(" + (11 + glaze) + ")", x.count(11 + glaze), 21 + glaze);
        }
        Checks.due("count(-1)", x.count(-1), Checks.BAD_VALUE);
        Checks.due("count(21)", x.count(21), Checks.BAD_VALUE);
        Checks.due("count(lowest int)", x.count(Integer.MIN_VALUE), Checks.BAD_VALUE);
    }

    private static void why() {
        PotteryNights x = Scenes.withBiscuits(1, 1, 3);
        Checks.due("why of biscuit", x.why(0), 2);
        x.glaze(0, 0);
        x.glaze(1, 0);
        x.glaze(2, 0);
        Checks.due("why of a glazed one", x.why(0), 0);
        x.load(0);
        Checks.due("why in the kiln", x.why(0), 1);
        x.set(PotteryNights.KILN, 3);
        Checks.due("why with room", x.why(1), 0);
        Checks.due("why without room", x.why(2), 5);
        Scenes.throwTonight(x, 1, 1);
        Checks.due("why of wet clay: 3 is before 4", x.why(3), 3);
        x.pass(2);
        Checks.due("why of clay to glazed", x.why(3), 4);
        x.load(1);
        x.pass(1);
        Scenes.throwTonight(x, 3);
        x.pass(3);
        Checks.due("why: 4 is before 5", x.why(5), 4);
        x.fire(100);
        Checks.due("why of a done one", x.why(0), 2);
        x.takeHome(0);
        Checks.due("why at home: 1 is before 2", x.why(0), 1);
        x.set(PotteryNights.DRY, 9);
        Checks.due("why of clay by a longer DRY", x.why(5), 3);
        x.set(PotteryNights.DRY, 2);
        Checks.due("why of clay by a shorter DRY", x.why(5), 0);
        Checks.due("why(6)", x.why(6), Checks.NO_SUCH);
        Checks.due("why(-1)", x.why(-1), Checks.NO_SUCH);

        PotteryNights edge = Scenes.withPupils(1);
        edge.set(PotteryNights.DRY, 1);
        Scenes.throwTonight(edge, 3);
        edge.pass(1);
        Checks.due("why one night short", edge.why(0), 3);
        edge.set(PotteryNights.KILN, 3);
        edge.pass(1);
        Checks.due("why with room for just its size", edge.why(0), 0);
    }

    private static void dryIn() {
        PotteryNights x = Scenes.withPupils(5);
        Scenes.throwTonight(x, 1, 2, 3, 1, 1);
        x.set(PotteryNights.DRY, 3);
        Checks.due("dryIn(0): 3 by 2, rounded up", x.dryIn(0), 2);
        Checks.due("dryIn(1): 6 by 2", x.dryIn(1), 3);
        Checks.due("dryIn(2): 9 by 2, rounded up", x.dryIn(2), 5);
        x.pass(1);
        Checks.due("dryIn(0) a night later", x.dryIn(0), 1);
        Scenes.throwTonight(x, 1, 1, 1, 2, 3);
        Checks.due("dryIn(8) on the rack 1", x.dryIn(8), 6);
        Checks.due("dryIn(9) on the rack 1", x.dryIn(9), 9);
        x.pass(1);
        Checks.due("dryIn(0), dry", x.dryIn(0), 0);
        Checks.due("dryIn(8)", x.dryIn(8), 5);
        x.pass(20);
        Checks.due("dryIn(8), long dry", x.dryIn(8), 0);
        x.load(0);
        Checks.due("dryIn of dry clay in the kiln", x.dryIn(0), Checks.NOT_POSSIBLE);
        x.fire(100);
        x.set(PotteryNights.DRY, 9);
        Checks.due("dryIn of biscuit", x.dryIn(0), 0);
        x.glaze(0, 0);
        x.load(0);
        Checks.due("dryIn of a glazed one in the kiln", x.dryIn(0), 0);
        Checks.due("dryIn(10)", x.dryIn(10), Checks.NO_SUCH);
        Checks.due("dryIn(-1)", x.dryIn(-1), Checks.NO_SUCH);
    }

    private static void ifFired() {
        PotteryNights x = Scenes.withDryPots(1, 1, 1, 1);
        x.load(0);
        x.load(1);
        x.load(3);
        int[][] clay = {{80, 0, 0, 0, 0b1011}, {94, 0, 0, 0, 0b1011}, {95, 0, 0b1011, 0, 0},
            {112, 0, 0b1011, 0, 0}, {113, 0b0001, 0b1010, 0, 0}, {115, 0b0011, 0b1000, 0, 0}, {116, 0b1011, 0, 0, 0},
            {140, 0b1011, 0, 0, 0}};
        outcomes(x, clay);
        x.set(PotteryNights.LIMIT, 100);
        outcomes(x, new int[][] {{92, 0, 0, 0, 0b1011}, {93, 1, 0, 0, 0b1010}});
        Checks.due("ifFired(79, 0)", x.ifFired(79, 0), Checks.BAD_VALUE);
        Checks.due("ifFired(141, 0)", x.ifFired(141, 0), Checks.BAD_VALUE);
        Checks.due("ifFired(80, 4)", x.ifFired(80, 4), Checks.BAD_VALUE);
        Checks.due("ifFired(80, -1)", x.ifFired(80, -1), Checks.BAD_VALUE);

        PotteryNights glazed = Scenes.withGlazedInKiln(0, 1, 2, 3);
        outcomes(glazed, new int[][] {{99, 0, 0, 0, 0b1111}, {100, 0, 0, 0b0001, 0b1110}, {105, 0, 0, 0b0011, 0b1100},
            {110, 0, 0, 0b0111, 0b1000}, {111, 0, 0b0001, 0b0110, 0b1000}, {115, 0b0011, 0, 0b1100, 0}});
        glazed.set(PotteryNights.LIMIT, 140);
        outcomes(glazed, new int[][] {{115, 0, 0b0001, 0b1110, 0}, {116, 0, 0b0011, 0b1100, 0},
            {125, 0, 0b0111, 0b1000, 0}, {126, 0, 0b1111, 0, 0}});
        outcomes(new PotteryNights(), new int[][] {{80, 0, 0, 0, 0}, {140, 0, 0, 0, 0}});
    }

    private static void outcomes(PotteryNights x, int[][] due) {
        for (int[] row : due) {
            for (int what = 0; what < 4; what++) {
                Checks.due("ifFired(" + row[0] + ", " + what + ")", x.ifFired(row[0], what), row[1 + what]);
            }
        }
    }

    private static void bestHeat() {
        Checks.due("bestHeat of an empty kiln", Scenes.withDryPots(1).bestHeat(), Checks.NONE);
        PotteryNights clay = Scenes.withDryPots(1, 1);
        clay.load(0);
        Checks.due("bestHeat of clay", clay.bestHeat(), 95);
        clay.set(PotteryNights.LIMIT, 103);
        Checks.due("bestHeat just below the limit", clay.bestHeat(), 95);
        clay.set(PotteryNights.LIMIT, 102);
        Checks.due("bestHeat if none can come on", clay.bestHeat(), 80);
        clay.load(1);
        Checks.due("bestHeat that breaks one", clay.bestHeat(), 95);

        Checks.due("bestHeat of 0 and 1", Scenes.withGlazedInKiln(0, 1).bestHeat(), 105);
        Checks.due("bestHeat of 0, 1 and 2", Scenes.withGlazedInKiln(0, 1, 2).bestHeat(), 110);
        Checks.due("bestHeat of 3", Scenes.withGlazedInKiln(3).bestHeat(), 80);
        PotteryNights two = Scenes.withGlazedInKiln(3, 3, 0);
        two.set(PotteryNights.LIMIT, 122);
        Checks.due("bestHeat: one each, the fewest break", two.bestHeat(), 100);
        two.set(PotteryNights.LIMIT, 123);
        Checks.due("bestHeat: two come on", two.bestHeat(), 115);
        PotteryNights breaking = Scenes.withGlazedInKiln(0, 3, 3);
        breaking.set(PotteryNights.LIMIT, 121);
        Checks.due("bestHeat: more come on, though one breaks", breaking.bestHeat(), 115);
        PotteryNights running = Scenes.withGlazedInKiln(0, 0, 3);
        running.set(PotteryNights.LIMIT, 140);
        Checks.due("bestHeat: what runs does not come on", running.bestHeat(), 100);
    }

    private static void firstFree() {
        PotteryNights x = Scenes.withPupils(7);
        Checks.due("firstFree(0, 0)", x.firstFree(0, 0), 0);
        Checks.due("firstFree(0, 1)", x.firstFree(0, 1), 0);
        x.book(0, 0, 0);
        x.book(1, 1, 0);
        x.book(2, 0, 1);
        Checks.due("firstFree(0, 0): booked tonight", x.firstFree(0, 0), 1);
        Checks.due("firstFree(0, 1)", x.firstFree(0, 1), 1);
        Checks.due("firstFree(3, 0)", x.firstFree(3, 0), 0);
        Checks.due("firstFree(3, 1)", x.firstFree(3, 1), 2);
        x.book(2, 2, 0);
        x.book(3, 3, 0);
        x.book(4, 4, 0);
        Checks.due("firstFree(5, 0): all wheels taken tonight", x.firstFree(5, 0), 1);
        Checks.due("firstFree(5, 1)", x.firstFree(5, 1), 1);
        x.pass(1);
        Checks.due("firstFree(5, 0) is a night, not how far ahead", x.firstFree(5, 0), 1);
        Checks.due("firstFree(2, 0)", x.firstFree(2, 0), 2);
        Checks.due("firstFree(7, 0)", x.firstFree(7, 0), Checks.NO_SUCH);
        Checks.due("firstFree(-1, 2): NO_SUCH is first", x.firstFree(-1, 2), Checks.NO_SUCH);
        Checks.due("firstFree(0, 2)", x.firstFree(0, 2), Checks.BAD_VALUE);
        Checks.due("firstFree(0, -1)", x.firstFree(0, -1), Checks.BAD_VALUE);
        for (int ahead = 0; ahead < 20; ahead++) {
            x.book(6, 4, ahead);
        }
        Checks.due("firstFree(6, 0) of the last night", x.firstFree(6, 0), 21);
        for (int wheel = 0; wheel < 5; wheel++) {
            x.book(wheel, wheel, 20);
        }
        Checks.due("firstFree(6, 0) if there is none", x.firstFree(6, 0), Checks.NONE);
        Checks.due("firstFree(6, 1) if there is none", x.firstFree(6, 1), Checks.NONE);
        Checks.due("firstFree(6, 2): BAD_VALUE is before NONE", x.firstFree(6, 2), Checks.BAD_VALUE);
    }

    private static void nothingChanges() {
        PotteryNights x = Scenes.withGlazedInKiln(0, 1, 2);
        int[] before = Checks.everything(x);
        Checks.unchanged("asking", before, Checks.everything(x));
    }
}
