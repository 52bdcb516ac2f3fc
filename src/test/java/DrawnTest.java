/** DRAWN has no bound: where it comes to be a refusal's number, nothing is refused (promises 10, 22, 23). */
public final class DrawnTest {
    private static final int[] SPECIAL = {GaugeBounds.NONE, GaugeBounds.BAD, GaugeBounds.NO, GaugeBounds.FULL};
    private static final String CHARGING = "p-9 999;".repeat(15);
    private static final int CHARGED_BY_TEXT = 15 * 9 * 999;

    public static void main(String[] args) {
        for (int drawn : SPECIAL) {
            toldIsNotCounted(drawn);
            digestIsNotCounted(drawn);
            passingIsDone(drawn);
            doingIsDone(drawn);
            restLearnsAsEver(drawn);
            wrongNumbersAreCounted(drawn);
        }
        leastAnswersAreNoRefusals();
        Check.end("DrawnTest");
    }

    /** A new object that has drawn so much (below 0), without a call that is refused. */
    private static GaugeBounds whereDrawnIs(int drawn) {
        GaugeBounds x = new GaugeBounds();
        x.offset(9);
        Check.type(x, CHARGING);
        int left = -drawn;
        for (; left >= CHARGED_BY_TEXT; left -= CHARGED_BY_TEXT) {
            Check.due("does()", x.does(), 15);
        }
        for (; left >= 9; left -= 9 * Math.min(left / 9, 999)) {
            Check.due("passes(-9, ..)", x.passes(-9, Math.min(left / 9, 999)), 1000);
        }
        if (left > 0) {
            Check.due("passes(-" + left + ", 1)", x.passes(-left, 1), 1000);
        }
        return x;
    }

    private static void nothingWasRefused(String when, GaugeBounds x) {
        for (int what = 0; what <= 2; what++) {
            Check.due(when + ": refused(" + what + ")", x.refused(what), 0);
        }
    }

    private static void toldIsNotCounted(int drawn) {
        GaugeBounds x = whereDrawnIs(drawn);
        for (int time = 0; time < 3; time++) {
            Check.due("told(6)", x.told(6), drawn);
        }
        nothingWasRefused("told(6) " + drawn, x);
        Check.due("STATES", x.refused(4), 5);
    }

    private static void digestIsNotCounted(int drawn) {
        GaugeBounds x = whereDrawnIs(drawn);
        long first = x.digest();
        nothingWasRefused("digest() at " + drawn, x);
        Check.due("digest() again", x.digest(), first);
        Check.due("digest()", first, DigestTest.byGetters(x));
    }

    private static void passingIsDone(int drawn) {
        GaugeBounds x = whereDrawnIs(drawn + 1);
        int steps = x.told(7);
        Check.due("passes(-1, 1)", x.passes(-1, 1), 1000);
        Check.due("DRAWN", x.told(6), drawn);
        Check.due("STEPS", x.told(7), steps + 1);
        Check.due("back()", x.back(), 4);
        Check.due("DRAWN behind back()", x.told(6), drawn + 1);
        nothingWasRefused("passes to " + drawn, x);
    }

    private static void doingIsDone(int drawn) {
        GaugeBounds x = whereDrawnIs(drawn + 1);
        Check.due("does()", Check.does(x, "p-1 1;p0 1;"), 2);
        Check.due("DRAWN", x.told(6), drawn);
        Check.due("back()", x.back(), 4);
        nothingWasRefused("does to " + drawn, x);
    }

    private static void restLearnsAsEver(int drawn) {
        GaugeBounds x = whereDrawnIs(drawn);
        Check.due("rests(3500)", x.rests(3500), 265);
        Check.due("DRAWN behind a REST", x.told(6), 0);
        x.back();
        Check.due("DRAWN behind back()", x.told(6), drawn);
        nothingWasRefused("rests at " + drawn, x);
    }

    private static void wrongNumbersAreCounted(int drawn) {
        GaugeBounds x = whereDrawnIs(drawn);
        int[] wrong = {-1, 12, Integer.MIN_VALUE, Integer.MAX_VALUE};
        for (int what : wrong) {
            Check.due("told(" + what + ")", x.told(what), GaugeBounds.BAD);
        }
        x.told(6);
        Check.due("refused(0)", x.refused(0), wrong.length);
        Check.due("refused(1)", x.refused(1), 0);
        Check.due("refused(2)", x.refused(2), 0);
    }

    /** The least that other calls answer stays above the refusals. */
    private static void leastAnswersAreNoRefusals() {
        GaugeBounds x = new GaugeBounds();
        x.begins(0, 0);
        x.curve(0, 0);
        Check.due("loads(1, 9999)", x.loads(1, 9999), -999900);
        Check.due("loads(-1, 9999)", x.loads(-1, 9999), 999900);
        Check.due("band(0, 0, 0)", x.band(0, 0, 0), -999900);
        Check.due("under(99)", x.under(99), 989901);
        Check.due("under(-99)", x.under(-99), 989901);
        x.begins(0, 1);
        x.curve(10, 9999);
        Check.due("loads(1, 0)", x.loads(1, 0), 999900);
        Check.due("loads(-1, 0)", x.loads(-1, 0), -999900);
        Check.due("under(99)", x.under(99), 9999 - 989901);
        Check.due("under(-99)", x.under(-99), 9999 - 989901);
        nothingWasRefused("the least answers", x);
    }
}
