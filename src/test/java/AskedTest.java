/** Promises 10 (told), 11 (volts), 12 (inverse) and 15 (lasts). */
public final class AskedTest {
    public static void main(String[] args) {
        told();
        volts();
        inverse();
        inverseByCling();
        lasts();
        Check.end("AskedTest");
    }

    private static void told() {
        GaugeBounds x = new GaugeBounds();
        x.offset(0);
        x.rests(3700);
        x.passes(10, 20);
        long[] want = {145, 510, 500, 1000, 436, 80, 200, 20, 0, 1, 690, 710};
        for (int what = 0; what < want.length; what++) {
            Check.due("told(" + what + ")", x.told(what), want[what]);
        }
        for (int what : new int[] {-1, 12, Integer.MIN_VALUE, Integer.MAX_VALUE}) {
            Check.due("told(" + what + ")", x.told(what), GaugeBounds.BAD);
        }
        Check.due("refused(0)", x.refused(0), 4);
    }

    private static void volts() {
        GaugeBounds x = new GaugeBounds();
        x.curve(0, 0);
        x.curve(10, 9999);
        x.curve(9, 3801);
        int[][] due = {{0, 0}, {1, 31}, {99, 3069}, {100, 3100}, {550, 3550}, {899, 3800}, {801, 3800}, {802, 3800},
            {900, 3801}, {901, 3862}, {999, 9937}, {1000, 9999}};
        for (int[] d : due) {
            Check.due("volts(" + d[0] + ")", x.volts(d[0]), d[1]);
        }
        for (int p : new int[] {-1, 1001, Integer.MIN_VALUE, Integer.MAX_VALUE}) {
            Check.due("volts(" + p + ")", x.volts(p), GaugeBounds.BAD);
        }
        Check.due("refused(0)", x.refused(0), 4);
        Check.due("refused(4)", x.refused(4), 3);
    }

    private static void inverse() {
        GaugeBounds x = new GaugeBounds();
        x.clings(0);
        x.curve(9, 3801);
        int none = GaugeBounds.NONE;
        int[][] due = {{3000, 0, 0}, {2999, 0, none}, {0, 0, none}, {4000, 1000, 1000}, {4001, none, 1000},
            {9999, none, 1000}, {3550, 550, 550}, {3800, 800, 899}, {3801, 900, 900}, {3802, 901, 901},
            {3803, 901, 902}};
        for (int[] d : due) {
            Check.due("inverse(" + d[0] + ", 0)", x.inverse(d[0], 0), d[1]);
            Check.due("inverse(" + d[0] + ", 1)", x.inverse(d[0], 1), d[2]);
        }
        Check.due("refused(0)", x.refused(0), 0);
        int[][] wrong = {{-1, 0}, {10000, 0}, {3500, -1}, {3500, 2}, {Integer.MIN_VALUE, 0}, {Integer.MAX_VALUE, 1}};
        for (int[] n : wrong) {
            Check.due("inverse(" + n[0] + ", " + n[1] + ")", x.inverse(n[0], n[1]), GaugeBounds.BAD);
        }
        Check.due("refused(0)", x.refused(0), wrong.length);
        Check.due("RESTS", x.told(9), 0);
    }

    private static void inverseByCling() {
        GaugeBounds x = new GaugeBounds();
        Check.due("inverse(3500, 0)", x.inverse(3500, 0), 490);
        Check.due("inverse(3500, 1)", x.inverse(3500, 1), 510);
        Check.due("inverse(4010, 0)", x.inverse(4010, 0), 1000);
        Check.due("inverse(4011, 0)", x.inverse(4011, 0), GaugeBounds.NONE);
        Check.due("inverse(4011, 1)", x.inverse(4011, 1), 1000);
        Check.due("inverse(2990, 1)", x.inverse(2990, 1), 0);
        Check.due("inverse(2989, 1)", x.inverse(2989, 1), GaugeBounds.NONE);
        Check.due("inverse(2989, 0)", x.inverse(2989, 0), 0);
        x.clings(500);
        Check.due("inverse(3500, 0)", x.inverse(3500, 0), 0);
        Check.due("inverse(3500, 1)", x.inverse(3500, 1), 1000);
    }

    private static void lasts() {
        GaugeBounds x = new GaugeBounds();
        x.holds(100, 998);
        Check.due("lasts(1, 0)", x.lasts(1, 0), 50);
        Check.due("lasts(1, 1)", x.lasts(1, 1), GaugeBounds.NONE);
        Check.due("lasts(2, 0)", x.lasts(2, 0), 33);
        Check.due("lasts(2, 1)", x.lasts(2, 1), 998);
        Check.due("lasts(4, 1)", x.lasts(4, 1), 332);
        Check.due("lasts(99, 0)", x.lasts(99, 0), 1);
        Check.due("lasts(99, 1)", x.lasts(99, 1), 10);
        x.offset(9);
        Check.due("lasts(9, 1)", x.lasts(9, 1), GaugeBounds.NONE);
        Check.due("lasts(10, 1)", x.lasts(10, 1), 998);
        Check.due("lasts(9, 0)", x.lasts(9, 0), 5);
        x.offset(0);
        Check.due("lasts(1, 0)", x.lasts(1, 0), 100);
        Check.due("lasts(1, 1)", x.lasts(1, 1), 998);
        int[][] wrong = {{0, 0}, {100, 0}, {-1, 1}, {1, -1}, {1, 2}, {Integer.MIN_VALUE, 0}, {Integer.MAX_VALUE, 1}};
        for (int[] n : wrong) {
            Check.due("lasts(" + n[0] + ", " + n[1] + ")", x.lasts(n[0], n[1]), GaugeBounds.BAD);
        }
        Check.due("refused(0)", x.refused(0), wrong.length);
    }
}
