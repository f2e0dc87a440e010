import java.util.Arrays;
import java.util.Random;

/** Runs of calls by seeds, held against the document written a second time; it promises 512 calls for each object. */
public final class ModelTest {
    private static final int RUNS = 2400;
    private static final int CALLS = 512;
    private static final int CALLS_OF_A_LOOK = 21 + 20 * 11 + 10 * 8 + 1;
    private static final int[] ODD = {Integer.MIN_VALUE, Integer.MAX_VALUE, -1, -2, 99, 100, 255, 1000, 65536};

    private final Random random;
    private final PotteryNights x = new PotteryNights();
    private final Model model = new Model();
    private final StringBuilder run = new StringBuilder();
    // A calm run seldom goes back, so that it gets far; the others are there for undo() and restore().
    private final boolean calm;
    private boolean right = true;
    private int calls = 0;

    private ModelTest(int seed) {
        // Seeds that are close begin with much the same numbers, so they are spread first.
        random = new Random(seed * 0x9E3779B97F4A7C15L);
        calm = seed % 2 == 0;
    }

    public static void main(String[] args) {
        int[] reached = new int[4];
        for (int seed = 0; seed < RUNS; seed++) {
            ModelTest test = new ModelTest(seed);
            test.play(seed % 4 < 2 ? CALLS : CALLS - CALLS_OF_A_LOOK);
            Checks.due("all answers of the run " + seed + " (1: yes)", test.right ? 1 : 0, 1);
            reached[0] += test.model.count(2) == 20 ? 1 : 0;
            reached[1] += test.model.count(9) > 0 ? 1 : 0;
            reached[2] += test.model.count(10) > 0 ? 1 : 0;
            reached[3] += test.model.count(8) > 4 ? 1 : 0;
        }
        // Runs that reach nothing would tell nothing.
        for (int what = 0; what < reached.length; what++) {
            Checks.due("many runs reached " + what + " (1: yes)", reached[what] > RUNS / 20 ? 1 : 0, 1);
        }
        System.out.println("runs with 20 pots, broken ones, fees, more than 4 firings: " + Arrays.toString(reached));
        Checks.finish();
    }

    /** Makes so many calls; with those that are left then it asks for everything. */
    private void play(int most) {
        if (upTo(1) == 0) {
            throwMany();
        }
        for (int call = 0; call < CALLS && calls < most && right; call++) {
            call();
        }
        look();
    }

    private int upTo(int most) {
        return random.nextInt(most + 1);
    }

    /** A number of a range that is often met, now and then one beside it or far away. */
    private int within(int least, int most) {
        int chance = random.nextInt(40);
        if (chance == 0) {
            return ODD[random.nextInt(ODD.length)];
        }
        if (chance == 1) {
            return least - 1;
        }
        return chance == 2 ? most + 1 : least + upTo(most - least);
    }

    private int pot() {
        return within(0, Math.max(model.count(2) - 1, 0));
    }

    private int potOf(int set) {
        int[] pots = new int[20];
        int n = 0;
        for (int pot = 0; pot < 20; pot++) {
            if ((set >> pot & 1) != 0) {
                pots[n++] = pot;
            }
        }
        return n == 0 || upTo(9) == 0 ? pot() : pots[random.nextInt(n)];
    }

    private int potOfKind(int kind) {
        int set = 0;
        for (int pot = 0; pot < model.count(2); pot++) {
            set |= model.of(pot, 2) == kind && model.of(pot, 3) != 2 ? 1 << pot : 0;
        }
        return potOf(set);
    }

    private int pupil() {
        return within(0, Math.max(model.count(1) - 1, 0));
    }

    private int heat() {
        return upTo(2) == 0 && model.count(4) != 0 ? model.bestHeat() + upTo(2) - 1 : within(80, 140);
    }

    private void call() {
        int chance = random.nextInt(100);
        if (chance < 62) {
            change();
        } else if (chance < 80) {
            ask();
        } else if (chance < 92) {
            text();
        } else if (!calm || upTo(7) == 0) {
            goBack();
        }
    }

    /** What an object answers behind its last call that counts is free. */
    private void due(String call, int got, int want) {
        calls++;
        if (calls > CALLS) {
            return;
        }
        run.append(call).append(" = ").append(got).append('\n');
        if (got != want && right) {
            right = false;
            System.out.println(run);
            Checks.due(call, got, want);
        }
    }

    private void change() {
        int a = 0;
        int b = 0;
        int c = 0;
        switch (random.nextInt(16)) {
            case 0:
                a = within(0, 3);
                b = a == 2 ? within(100, 140) : a == 1 ? within(3, 24) : within(0, 9);
                due("set(" + a + ", " + b + ")", x.set(a, b), model.set(a, b));
                break;
            case 1:
                due("pupil()", x.pupil(), model.pupil());
                break;
            case 2: case 3:
                a = pupil();
                b = within(0, 4);
                c = upTo(2) > 0 ? 0 : within(0, 20);
                due("book(" + a + ", " + b + ", " + c + ")", x.book(a, b, c), model.book(a, b, c));
                break;
            case 4:
                a = pupil();
                b = upTo(1) > 0 ? 0 : within(0, 20);
                due("giveBack(" + a + ", " + b + ")", x.giveBack(a, b), model.giveBack(a, b));
                break;
            case 5: case 6: case 7:
                a = pupil();
                if (upTo(1) == 0) {
                    b = within(0, 4);
                    due("book(" + a + ", " + b + ", 0)", x.book(a, b, 0), model.book(a, b, 0));
                }
                b = within(1, 3);
                due("throwPot(" + a + ", " + b + ")", x.throwPot(a, b), model.throwPot(a, b));
                break;
            case 8: case 9:
                a = potOf(model.count(7));
                due("load(" + a + ")", x.load(a), model.load(a));
                break;
            case 10:
                a = potOf(model.count(4));
                due("unload(" + a + ")", x.unload(a), model.unload(a));
                break;
            case 11:
                a = heat();
                due("fire(" + a + ")", x.fire(a), model.fire(a));
                break;
            case 12:
                a = potOfKind(1);
                b = within(0, 3);
                due("glaze(" + a + ", " + b + ")", x.glaze(a, b), model.glaze(a, b));
                break;
            case 13:
                a = within(0, 3);
                b = within(1, 99);
                if (upTo(3) == 0) {
                    due("fill(" + a + ", " + b + ")", x.fill(a, b), model.fill(a, b));
                }
                break;
            case 14:
                a = potOfKind(3);
                due("takeHome(" + a + ")", x.takeHome(a), model.takeHome(a));
                break;
            default:
                a = upTo(3) > 0 ? 1 : within(1, 20);
                due("pass(" + a + ")", x.pass(a), model.pass(a));
                break;
        }
    }

    private void ask() {
        int a = 0;
        int b = 0;
        switch (random.nextInt(9)) {
            case 0:
                a = pot();
                b = within(0, 8);
                due("of(" + a + ", " + b + ")", x.of(a, b), model.of(a, b));
                break;
            case 1:
                a = pupil();
                b = within(0, 5);
                due("ofPupil(" + a + ", " + b + ")", x.ofPupil(a, b), model.ofPupil(a, b));
                break;
            case 2:
                a = within(0, 4);
                b = within(0, 20);
                due("booked(" + a + ", " + b + ")", x.booked(a, b), model.booked(a, b));
                break;
            case 3:
                a = within(0, 20);
                due("count(" + a + ")", x.count(a), model.count(a));
                break;
            case 4:
                a = pot();
                due("why(" + a + ")", x.why(a), model.why(a));
                break;
            case 5:
                a = pot();
                due("dryIn(" + a + ")", x.dryIn(a), model.dryIn(a));
                break;
            case 6:
                a = heat();
                b = within(0, 3);
                due("ifFired(" + a + ", " + b + ")", x.ifFired(a, b), model.ifFired(a, b));
                break;
            case 7:
                due("bestHeat()", x.bestHeat(), model.bestHeat());
                break;
            default:
                a = pupil();
                b = within(0, 1);
                due("firstFree(" + a + ", " + b + ")", x.firstFree(a, b), model.firstFree(a, b));
                break;
        }
    }

    private String order() {
        switch (random.nextInt(9)) {
            case 0: return "p";
            case 1: return "b" + upTo(9) + upTo(5);
            case 2: return "b" + upTo(9) + upTo(5) + "+" + within(0, 20);
            case 3: return "t" + upTo(9) + "*" + (1 + upTo(3));
            case 4: return "l" + potOf(model.count(7));
            case 5: return "f" + heat();
            case 6: return "g" + potOfKind(1) + "." + upTo(4);
            case 7: return "n" + (1 + upTo(2));
            default: return "h" + potOfKind(3);
        }
    }

    private void type(String text) {
        for (int i = 0; i < text.length(); i += 8) {
            long characters = Call.characters(text.substring(i, Math.min(i + 8, text.length())));
            due("put(" + characters + "L)", x.put(characters), model.put(characters));
        }
    }

    /** Up to 20 pots of a few nights, by texts, so that a run has calls left for what comes of them. */
    private void throwMany() {
        type("p;p;p;p;p;p;p;p");
        due("carryOut()", x.carryOut(), model.carryOut());
        for (int nights = upTo(5); nights > 0; nights--) {
            StringBuilder orders = new StringBuilder();
            for (int wheel = 0; wheel < 5; wheel++) {
                int pupil = (wheel + nights) % 8;
                orders.append('b').append(pupil).append(wheel).append(";t").append(pupil).append('*').append(1 + upTo(2)).append(';');
            }
            type(orders.append("n1").toString());
            due("carryOut()", x.carryOut(), model.carryOut());
        }
    }

    private void text() {
        int chance = upTo(9);
        if (chance == 0) {
            long characters = random.nextLong() >>> 8 * upTo(7);
            due("put(" + characters + "L)", x.put(characters), model.put(characters));
        } else if (chance == 1) {
            due("wipe()", x.wipe(), model.wipe());
        } else {
            type(order() + ";" + order() + ";" + order() + ";" + order() + (upTo(5) == 0 ? ";" : ""));
        }
        due("fault()", x.fault(), model.fault());
        int carried = model.carryOut();
        due("carryOut()", x.carryOut(), carried);
        if (carried < 0 && upTo(3) > 0) {
            due("wipe()", x.wipe(), model.wipe());
        }
    }

    private void goBack() {
        int a = within(0, 1);
        switch (random.nextInt(8)) {
            case 0:
                due("restore(" + a + ")", x.restore(a), model.restore(a));
                break;
            case 1: case 2: case 3:
                due("save(" + a + ")", x.save(a), model.save(a));
                break;
            default:
                due("undo()", x.undo(), model.undo());
                break;
        }
    }

    /** Everything that can be asked, at once. */
    private void look() {
        for (int what = 0; what <= 20; what++) {
            due("count(" + what + ")", x.count(what), model.count(what));
        }
        for (int pot = 0; pot < 20; pot++) {
            for (int what = 0; what <= 8; what++) {
                due("of(" + pot + ", " + what + ")", x.of(pot, what), model.of(pot, what));
            }
            due("why(" + pot + ")", x.why(pot), model.why(pot));
            due("dryIn(" + pot + ")", x.dryIn(pot), model.dryIn(pot));
        }
        for (int pupil = 0; pupil < 10; pupil++) {
            for (int what = 0; what <= 5; what++) {
                due("ofPupil(" + pupil + ", " + what + ")", x.ofPupil(pupil, what), model.ofPupil(pupil, what));
            }
            due("firstFree(" + pupil + ", 0)", x.firstFree(pupil, 0), model.firstFree(pupil, 0));
            due("firstFree(" + pupil + ", 1)", x.firstFree(pupil, 1), model.firstFree(pupil, 1));
        }
        due("bestHeat()", x.bestHeat(), model.bestHeat());
    }
}
