/** Ways to bring a new object into a state that a test needs. */
final class Scenes {
    private Scenes() {
    }

    static PotteryNights withPupils(int pupils) {
        PotteryNights x = new PotteryNights();
        for (int i = 0; i < pupils; i++) {
            x.pupil();
        }
        return x;
    }

    /** The pupils 0, 1, .. throw a pot each tonight, of these sizes; each sits at the wheel of its number. */
    static void throwTonight(PotteryNights x, int... sizes) {
        for (int pupil = 0; pupil < sizes.length; pupil++) {
            x.book(pupil, pupil, 0);
            x.throwPot(pupil, sizes[pupil]);
        }
    }

    /** Pots of these sizes, dry on the rack 0. The faults are 8, 6, 3, 5, 0, by the numbers of the pots. */
    static PotteryNights withDryPots(int... sizes) {
        PotteryNights x = withPupils(sizes.length);
        throwTonight(x, sizes);
        x.pass(3);
        return x;
    }

    static PotteryNights withBiscuits(int... sizes) {
        PotteryNights x = withDryPots(sizes);
        x.set(PotteryNights.KILN, 24);
        for (int pot = 0; pot < sizes.length; pot++) {
            x.load(pot);
        }
        x.fire(100);
        return x;
    }

    /** Pots of the size 1 that bear these glazes, in the kiln. */
    static PotteryNights withGlazedInKiln(int... glazes) {
        int[] sizes = new int[glazes.length];
        java.util.Arrays.fill(sizes, 1);
        PotteryNights x = withBiscuits(sizes);
        for (int pot = 0; pot < glazes.length; pot++) {
            x.glaze(pot, glazes[pot]);
            x.load(pot);
        }
        return x;
    }

    /** 20 pots of the size 1 in the night 3, 5 of each of the nights 0 to 3. */
    static PotteryNights withAllPots() {
        PotteryNights x = withPupils(6);
        for (int night = 0; night < 4; night++) {
            throwTonight(x, 1, 1, 1, 1, 1);
            if (night < 3) {
                x.pass(1);
            }
        }
        return x;
    }

    static long characters(String text) {
        long number = 0;
        for (int i = 0; i < text.length(); i++) {
            number = number << 8 | text.charAt(i);
        }
        return number;
    }

    static void type(PotteryNights x, String text) {
        for (int i = 0; i < text.length(); i += 8) {
            x.put(characters(text.substring(i, Math.min(i + 8, text.length()))));
        }
    }
}
