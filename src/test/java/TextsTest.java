/** Promises 23 to 26: the pad. */
public final class TextsTest {
    private static final String EIGHTY = "p;p;p;p;p;p;p;p;p;p;p;p;p;p;p;p;p;p;p;p;p;p;p;p;p;p;p;p;p;p;p;p;p;p;p;p;p;p;p;p;";

    public static void main(String[] args) {
        put();
        putUpTo80();
        wipe();
        faultsOfWholeTexts();
        textsWithoutFault();
        faultsOfEachCharacter();
        carryOutEachOrder();
        carryOutUpToAnError();
        carryOutIsOneChange();
        Checks.finish();
    }

    private static void put() {
        PotteryNights x = new PotteryNights();
        Checks.due("put(p)", x.put('p'), 1);
        Checks.due("put(;p)", x.put(Scenes.characters(";p")), 3);
        Checks.due("count(19)", x.count(19), 3);
        Checks.due("fault: the characters are in their order", x.fault(), Checks.NONE);
        Checks.due("put of eight", x.put(Scenes.characters(";b00+20;")), 11);
        Checks.due("put of ! and ~", x.put(Scenes.characters("!~")), 13);
        Checks.refused(x, "put(0)", Checks.BAD_VALUE, () -> x.put(0));
        Checks.refused(x, "put(32)", Checks.BAD_VALUE, () -> x.put(32));
        Checks.refused(x, "put(127)", Checks.BAD_VALUE, () -> x.put(127));
        Checks.refused(x, "put(255)", Checks.BAD_VALUE, () -> x.put(255));
        Checks.refused(x, "put: a space before", Checks.BAD_VALUE, () -> x.put(' ' << 8 | 'p'));
        Checks.refused(x, "put: no last character", Checks.BAD_VALUE, () -> x.put('p' << 8));
        Checks.refused(x, "put: a bit above 8 bits of 0", Checks.BAD_VALUE, () -> x.put('p' << 16 | 'p'));
        Checks.refused(x, "put: the highest bit above 8 bits of 0", Checks.BAD_VALUE, () -> x.put(Long.MIN_VALUE | 'p'));
        Checks.refused(x, "put: the first of eight too high", Checks.BAD_VALUE,
                () -> x.put(Scenes.characters("pppppppp") | Long.MIN_VALUE));
        Checks.refused(x, "put(-1)", Checks.BAD_VALUE, () -> x.put(-1));
        Checks.refused(x, "put(lowest long)", Checks.BAD_VALUE, () -> x.put(Long.MIN_VALUE));
    }

    private static void putUpTo80() {
        PotteryNights x = new PotteryNights();
        Scenes.type(x, EIGHTY.substring(0, 79));
        Checks.due("fault of 79", x.fault(), Checks.NONE);
        Checks.refused(x, "put of two at 79", Checks.TOO_MANY, () -> x.put(Scenes.characters(";p")));
        Checks.refused(x, "put of a bad one at 79: BAD_VALUE is first", Checks.BAD_VALUE, () -> x.put('p' << 8));
        Checks.due("put of one at 79", x.put(';'), 80);
        Checks.refused(x, "put of one at 80", Checks.TOO_MANY, () -> x.put('p'));
        Checks.due("fault of 80 that end too early", x.fault(), 80);
    }

    private static void wipe() {
        PotteryNights x = new PotteryNights();
        Checks.due("wipe of nothing", x.wipe(), 0);
        Scenes.type(x, "p;p;n1");
        Checks.due("wipe", x.wipe(), 6);
        Checks.due("count(19)", x.count(19), 0);
        Checks.due("count(20): no change", x.count(20), 0);
        Checks.due("wipe again", x.wipe(), 0);
        Checks.due("put behind", x.put('p'), 1);
    }

    private static void fault(String text, int due) {
        PotteryNights x = new PotteryNights();
        Scenes.type(x, text);
        Checks.due("fault of \"" + text + "\"", x.fault(), due);
    }

    private static void faultsOfWholeTexts() {
        String[] texts = {"", "x", ";", "p;", "pp", "p;;p", "P", "0", "b", "b1", "b12+", "b12+;", "b123", "b1x", "bx", "b12-3",
            "b12+01", "b12+1000", "b12++1", "t", "t1", "t1*", "t1*12", "t12", "t*1", "t1*;", "l", "l;", "l00", "l01",
            "l1000", "l0123", "l1.2", "f-1", "f1000;p", "n", "n1x", "h", "hh", "h1+", "g", "g1", "g1.", "g1.12", "g.1",
            "g1;", "g01.1", "g1000.1", "g999.", "p;p;x", "p;l12;q", "p,p", "l1;l1000"};
        int[] due = {0, 0, 0, 2, 1, 2, 0, 0, 1, 2, 4, 4, 3, 2, 1, 3,
            5, 7, 4, 1, 2, 3, 4, 2, 1, 3, 1, 1, 2, 2,
            4, 2, 2, 1, 4, 1, 2, 1, 1, 2, 1, 2, 3, 4, 1,
            2, 2, 4, 5, 4, 6, 1, 7};
        for (int i = 0; i < texts.length; i++) {
            fault(texts[i], due[i]);
        }
    }

    private static void textsWithoutFault() {
        String[] texts = {"p", "b00", "b99+0", "b12+999", "t0*0", "t9*9", "l0", "l999", "f0", "f80", "f140", "g0.0",
            "g999.9", "n1", "n10", "n999", "h7", "h100", "p;p", "p;b00;t0*1;n1;l0;f100;g0.0;h0", EIGHTY.substring(0, 79)};
        for (String text : texts) {
            fault(text, Checks.NONE);
        }
    }

    private static void faultsOfEachCharacter() {
        String text = "p;b12+34;t5*6;l7;f100;g8.9;n1;h0;p";
        for (int at = 0; at < text.length(); at++) {
            PotteryNights x = new PotteryNights();
            Scenes.type(x, text.substring(0, at) + '#' + text.substring(at + 1));
            Checks.due("fault of # at " + at, x.fault(), at);
        }
    }

    private static int carriedOut(PotteryNights x, String text) {
        Scenes.type(x, text);
        return x.carryOut();
    }

    private static void carryOutEachOrder() {
        PotteryNights x = new PotteryNights();
        Checks.due("p", carriedOut(x, "p;p"), 2);
        Checks.due("count(1)", x.count(1), 2);
        Checks.due("count(19)", x.count(19), 0);
        Checks.due("b", carriedOut(x, "b03;b14+20"), 2);
        Checks.due("booked(3, 0)", x.booked(3, 0), 0);
        Checks.due("booked(4, 20)", x.booked(4, 20), 1);
        Checks.due("t", carriedOut(x, "t0*2"), 1);
        Checks.due("of(0, 0)", x.of(0, 0), 0);
        Checks.due("of(0, 1)", x.of(0, 1), 2);
        Checks.due("n", carriedOut(x, "n12"), 1);
        Checks.due("count(0)", x.count(0), 12);
        Checks.due("l", carriedOut(x, "l0"), 1);
        Checks.due("of(0, 3)", x.of(0, 3), 1);
        Checks.due("f", carriedOut(x, "f111"), 1);
        Checks.due("of(0, 2)", x.of(0, 2), 1);
        Checks.due("g", carriedOut(x, "g0.1"), 1);
        Checks.due("count(12)", x.count(12), 18);
        Checks.due("l, f, h", carriedOut(x, "l0;f105;h0"), 3);
        Checks.due("ofPupil(0, 4)", x.ofPupil(0, 4), 6);
    }

    private static void carryOutUpToAnError() {
        PotteryNights x = new PotteryNights();
        Checks.due("up to an error", carriedOut(x, "p;b00+5;b01+5;p"), 2);
        Checks.due("count(1)", x.count(1), 1);
        Checks.due("count(19)", x.count(19), 0);
        Checks.due("b without +", carriedOut(x, "b01;b02"), 1);
        Checks.due("b behind one with +", carriedOut(x, "p;b12+7;b12;b13+1"), 4);
        Checks.due("booked(2, 0)", x.booked(2, 0), 1);
        Checks.due("40 orders at most", carriedOut(x, EIGHTY.substring(0, 79)), 8);
        Checks.due("count(1)", x.count(1), 10);
        Scenes.type(x, "p;x");
        Checks.refused(x, "carryOut with a fault", Checks.BAD_TEXT, x::carryOut);
        Checks.due("the text stays", x.wipe(), 3);
        Checks.refused(x, "carryOut of nothing", Checks.BAD_TEXT, x::carryOut);

        PotteryNights many = new PotteryNights();
        Checks.due("26 orders n1", carriedOut(many, "n1;n1;n1;n1;n1;n1;n1;n1;n1;n1;n1;n1;n1;n1;n1;n1;n1;n1;n1;n1;n1;n1;n1;n1;n1;n1"),
                26);
        Checks.due("count(0)", many.count(0), 26);
    }

    private static void carryOutIsOneChange() {
        PotteryNights x = new PotteryNights();
        carriedOut(x, "p;p;n3");
        Checks.due("count(20)", x.count(20), 1);
        carriedOut(x, "l0;p");
        Checks.due("count(20) if none is carried out", x.count(20), 2);
        Scenes.type(x, "n1");
        Checks.due("undo", x.undo(), 1);
        Checks.due("the pad stays", x.count(19), 2);
        Checks.due("count(0) then", x.count(0), 3);
        Checks.due("undo of all orders", x.undo(), 0);
        Checks.due("count(0)", x.count(0), 0);
        Checks.due("count(1)", x.count(1), 0);
        Checks.due("the pad still stays", x.carryOut(), 1);
        Checks.due("count(0) behind", x.count(0), 1);
    }
}
