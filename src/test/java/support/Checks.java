import java.util.Arrays;
import java.util.function.IntSupplier;

/** Counts answers that are not due, and ends a test with exit code 1 if there was one. */
final class Checks {
    static final int NO_SUCH = -1, BAD_VALUE = -2, BAD_TEXT = -3, TOO_MANY = -4, NOT_POSSIBLE = -5, NONE = -6;

    private static int right = 0;
    private static int wrong = 0;

    private Checks() {
    }

    static void due(String call, long got, long want) {
        if (got == want) {
            right++;
            return;
        }
        wrong++;
        System.out.println(call + " answered " + got + ", due is " + want);
    }

    /** A call that has to answer with an error, and to leave every answer of the object as it was. */
    static void refused(PotteryNights x, String call, int want, IntSupplier calling) {
        int[] before = everything(x);
        due(call, calling.getAsInt(), want);
        unchanged(call, before, everything(x));
    }

    static void unchanged(String call, int[] before, int[] after) {
        boolean same = Arrays.equals(before, after);
        if (!same) {
            System.out.println(call + ": before " + Arrays.toString(before));
            System.out.println(call + ": after  " + Arrays.toString(after));
        }
        due(call + " leaves all answers alone (1: yes)", same ? 1 : 0, 1);
    }

    /** All that an object tells of itself. */
    static int[] everything(PotteryNights x) {
        return answers(x, 21);
    }

    /** All that an object tells of itself, but for the pad and the history. */
    static int[] everythingButPadAndHistory(PotteryNights x) {
        return answers(x, 19);
    }

    private static int[] answers(PotteryNights x, int counts) {
        int[] all = new int[1000];
        int n = 0;
        for (int what = 0; what < counts; what++) {
            all[n++] = x.count(what);
        }
        for (int pot = 0; pot < 20; pot++) {
            for (int what = 0; what < 9; what++) {
                all[n++] = x.of(pot, what);
            }
            all[n++] = x.why(pot);
            all[n++] = x.dryIn(pot);
        }
        for (int pupil = 0; pupil < 10; pupil++) {
            for (int what = 0; what < 6; what++) {
                all[n++] = x.ofPupil(pupil, what);
            }
            all[n++] = x.firstFree(pupil, 0);
            all[n++] = x.firstFree(pupil, 1);
        }
        for (int wheel = 0; wheel < 5; wheel++) {
            for (int ahead = 0; ahead <= 20; ahead++) {
                all[n++] = x.booked(wheel, ahead);
            }
        }
        for (int heat = 80; heat <= 140; heat += 5) {
            for (int what = 0; what < 4; what++) {
                all[n++] = x.ifFired(heat, what);
            }
        }
        all[n++] = x.bestHeat();
        if (counts > 19) {
            all[n++] = x.fault();
        }
        return Arrays.copyOf(all, n);
    }

    static void finish() {
        System.out.println(right + " answers as due, " + wrong + " not");
        if (wrong != 0 || right == 0) {
            System.exit(1);
        }
    }
}
