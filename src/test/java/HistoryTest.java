import java.util.function.Consumer;

/** Promises 27 to 29: undo, and saved states. */
public final class HistoryTest {
    public static void main(String[] args) {
        undoSixAtMost();
        undoBringsEverythingBack();
        undoLeavesPadAndSlots();
        changesOfNothingAreRecorded();
        whatIsNoChange();
        drawsAreUndone();
        otherPotsInTheirStead();
        save();
        restore();
        Checks.finish();
    }

    private static void undoSixAtMost() {
        PotteryNights x = new PotteryNights();
        for (int i = 0; i < 9; i++) {
            x.pupil();
            Checks.due("count(20)", x.count(20), Math.min(i + 1, 6));
        }
        for (int left = 5; left >= 0; left--) {
            Checks.due("undo()", x.undo(), left);
            Checks.due("count(1)", x.count(1), 3 + left);
        }
        Checks.refused(x, "undo() of none", Checks.NOT_POSSIBLE, x::undo);
        Checks.due("pupil() behind", x.pupil(), 3);
        Checks.due("count(20)", x.count(20), 1);
        Checks.due("undo() of it", x.undo(), 0);
        for (int round = 0; round < 20; round++) {
            x.pass(1);
            x.pass(1);
            x.undo();
        }
        Checks.due("count(0)", x.count(0), 20);
        Checks.due("count(20)", x.count(20), 5);
        for (int left = 4; left >= 0; left--) {
            Checks.due("undo()", x.undo(), left);
            Checks.due("count(0)", x.count(0), 15 + left);
        }
    }

    private static void undone(String call, PotteryNights x, Consumer<PotteryNights> change) {
        int[] before = Checks.everythingButPadAndHistory(x);
        int kept = x.count(20);
        change.accept(x);
        Checks.due(call + " is recorded", x.count(20), Math.min(kept + 1, 6));
        Checks.due("undo() of " + call, x.undo(), Math.min(kept, 5));
        Checks.unchanged(call + ", undone,", before, Checks.everythingButPadAndHistory(x));
        change.accept(x);
    }

    private static void undoBringsEverythingBack() {
        PotteryNights x = new PotteryNights();
        undone("set", x, y -> y.set(PotteryNights.DRY, 1));
        undone("pupil", x, y -> y.pupil());
        undone("pupil", x, y -> y.pupil());
        undone("book", x, y -> y.book(0, 3, 0));
        undone("book", x, y -> y.book(1, 2, 0));
        undone("book", x, y -> y.book(0, 3, 20));
        undone("giveBack", x, y -> y.giveBack(0, 20));
        undone("throwPot", x, y -> y.throwPot(0, 1));
        undone("throwPot", x, y -> y.throwPot(1, 1));
        undone("pass", x, y -> y.pass(7));
        undone("load", x, y -> y.load(0));
        undone("load", x, y -> y.load(1));
        undone("unload", x, y -> y.unload(0));
        undone("load", x, y -> y.load(0));
        undone("fire", x, y -> y.fire(113));
        undone("glaze", x, y -> y.glaze(1, 2));
        undone("fill", x, y -> y.fill(2, 50));
        undone("load", x, y -> y.load(1));
        undone("fire", x, y -> y.fire(110));
        undone("takeHome", x, y -> y.takeHome(1));
        x.save(0);
        undone("pass", x, y -> y.pass(1));
        undone("restore", x, y -> y.restore(0));
        undone("carryOut", x, y -> {
            Scenes.type(y, "p;n5;b20+3");
            y.carryOut();
        });
        undone("set", x, y -> y.set(PotteryNights.FEE, 7));
    }

    private static void undoLeavesPadAndSlots() {
        PotteryNights x = Scenes.withPupils(1);
        x.pass(4);
        Scenes.type(x, "n1");
        x.save(1);
        x.undo();
        Checks.due("count(19)", x.count(19), 2);
        Checks.due("restore(1)", x.restore(1), 0);
        Checks.due("count(0)", x.count(0), 4);
    }

    private static void changesOfNothingAreRecorded() {
        PotteryNights x = new PotteryNights();
        x.set(PotteryNights.FEE, 3);
        x.fill(0, 99);
        x.fill(0, 99);
        Checks.due("count(20)", x.count(20), 3);
        x.undo();
        Checks.due("count(11)", x.count(11), 99);
        x.undo();
        Checks.due("count(11) then", x.count(11), 20);
    }

    private static void whatIsNoChange() {
        PotteryNights x = Scenes.withPupils(2);
        Scenes.type(x, "p");
        x.wipe();
        x.fault();
        x.save(0);
        x.bestHeat();
        x.firstFree(0, 0);
        x.carryOut();
        x.restore(1);
        x.load(0);
        Checks.due("count(20)", x.count(20), 2);
        x.undo();
        Checks.due("undo() is no change", x.count(20), 1);
    }

    private static void drawsAreUndone() {
        PotteryNights x = Scenes.withPupils(2);
        x.set(PotteryNights.DRY, 1);
        x.book(0, 0, 0);
        x.book(1, 1, 0);
        x.throwPot(0, 1);
        x.undo();
        x.throwPot(1, 1);
        x.throwPot(0, 1);
        x.pass(1);
        x.load(0);
        x.load(1);
        x.fire(80);
        Checks.due("of(0, 0)", x.of(0, 0), 1);
        Checks.due("of(0, 6): the first draw again", x.of(0, 6), 8);
        Checks.due("of(1, 6): the second one", x.of(1, 6), 6);
    }

    private static void otherPotsInTheirStead() {
        PotteryNights x = Scenes.withPupils(2);
        x.book(0, 0, 0);
        x.book(1, 1, 0);
        x.throwPot(0, 1);
        x.save(0);
        x.undo();
        x.throwPot(1, 3);
        x.restore(0);
        Checks.due("of(0, 0) of the first one", x.of(0, 0), 0);
        Checks.due("of(0, 1) of the first one", x.of(0, 1), 1);
        x.undo();
        Checks.due("of(0, 0) of the other one", x.of(0, 0), 1);
        Checks.due("of(0, 1) of the other one", x.of(0, 1), 3);

        PotteryNights glazed = Scenes.withBiscuits(1);
        glazed.glaze(0, 1);
        glazed.save(0);
        glazed.undo();
        glazed.glaze(0, 2);
        glazed.restore(0);
        Checks.due("of(0, 7) of the first glaze", glazed.of(0, 7), 1);
        glazed.undo();
        Checks.due("of(0, 7) of the other glaze", glazed.of(0, 7), 2);
    }

    private static void save() {
        PotteryNights x = Scenes.withDryPots(1, 1, 1);
        int[] before = Checks.everything(x);
        Checks.due("save(0)", x.save(0), 3);
        Checks.unchanged("save(0)", before, Checks.everything(x));
        Checks.refused(x, "save(2)", Checks.BAD_VALUE, () -> x.save(2));
        Checks.refused(x, "save(-1)", Checks.BAD_VALUE, () -> x.save(-1));
        Checks.refused(x, "restore(1): nothing was saved in it", Checks.NOT_POSSIBLE, () -> x.restore(1));
        x.pass(1);
        x.save(0);
        x.pass(1);
        x.restore(0);
        Checks.due("count(0): overwritten", x.count(0), 4);
        Checks.due("save(1)", new PotteryNights().save(1), 0);
    }

    private static void restore() {
        PotteryNights x = Scenes.withGlazedInKiln(0, 1);
        Checks.refused(x, "restore(0)", Checks.NOT_POSSIBLE, () -> x.restore(0));
        Checks.refused(x, "restore(2)", Checks.BAD_VALUE, () -> x.restore(2));
        Checks.refused(x, "restore(-1)", Checks.BAD_VALUE, () -> x.restore(-1));
        int[] first = Checks.everythingButPadAndHistory(x);
        x.save(0);
        x.fire(105);
        x.takeHome(0);
        x.pupil();
        x.book(2, 0, 3);
        x.book(0, 1, 0);
        x.throwPot(0, 3);
        x.set(PotteryNights.LIMIT, 110);
        int[] second = Checks.everythingButPadAndHistory(x);
        x.save(1);
        Scenes.type(x, "p;");
        Checks.due("restore(0)", x.restore(0), 2);
        Checks.unchanged("saved and restored", first, Checks.everythingButPadAndHistory(x));
        Checks.due("the pad stays", x.count(19), 2);
        x.fire(105);
        x.pass(20);
        Checks.due("restore(1)", x.restore(1), 3);
        Checks.unchanged("saved and restored in the slot 1", second, Checks.everythingButPadAndHistory(x));
        Checks.due("restore(0) again: the slot keeps it", x.restore(0), 2);
        Checks.unchanged("saved and restored again", first, Checks.everythingButPadAndHistory(x));
        Checks.due("undo() of it", x.undo(), 5);
        Checks.unchanged("undone", second, Checks.everythingButPadAndHistory(x));
    }
}
