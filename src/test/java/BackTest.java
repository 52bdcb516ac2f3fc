/** Promises 21 (back) and 22 (refused). */
public final class BackTest {
    public static void main(String[] args) {
        fiveAtMost();
        againBehindBack();
        allIsBack();
        callsThatLeaveNone();
        refused();
        Check.end("BackTest");
    }

    private static void fiveAtMost() {
        GaugeBounds x = new GaugeBounds();
        for (int n = 2; n <= 9; n++) {
            x.offset(n);
            Check.due("refused(4)", x.refused(4), Math.min(n - 1, 5));
        }
        for (int left = 4; left >= 0; left--) {
            Check.due("back()", x.back(), left);
            Check.due("OFFSET", x.setting(0), left + 4);
        }
        Check.due("back()", x.back(), GaugeBounds.NO);
        Check.due("back()", x.back(), GaugeBounds.NO);
        Check.due("OFFSET", x.setting(0), 4);
        Check.due("refused(1)", x.refused(1), 2);
    }

    private static void againBehindBack() {
        GaugeBounds x = new GaugeBounds();
        for (int n = 2; n <= 8; n++) {
            x.offset(n);
        }
        x.back();
        x.back();
        x.offset(0);
        x.offset(99);
        Check.due("refused(4)", x.refused(4), 4);
        Check.due("back()", x.back(), 3);
        Check.due("OFFSET", x.setting(0), 6);
        Check.due("back()", x.back(), 2);
        Check.due("OFFSET", x.setting(0), 5);
        for (int n = 0; n <= 9; n++) {
            x.offset(n);
            x.offset(n);
            x.back();
        }
        Check.due("refused(4)", x.refused(4), 4);
        Check.due("back()", x.back(), 3);
        Check.due("OFFSET", x.setting(0), 8);
    }

    private static void allIsBack() {
        GaugeBounds x = new GaugeBounds();
        x.passes(10, 20);
        x.rests(3700);
        x.loads(10, 3300);
        x.passes(10, 2);
        x.rests(3100);
        long[] before = Check.state(x);
        Check.does(x, "o0;g0;c5 3555;p1 1;r3400;l10 3000;l-10 3000;p-3 3;");
        x.told(-1);
        Check.due("back()", x.back(), 4);
        Check.same("behind back()", Check.state(x), before);
        Check.due("refused(0) is not of a STATE", x.refused(0), 1);
        Check.due("refused(3) is not of a STATE", x.refused(3), 50);
    }

    private static void callsThatLeaveNone() {
        GaugeBounds x = new GaugeBounds();
        x.told(0);
        x.volts(0);
        x.inverse(0, 0);
        x.band(0, 0, 0);
        x.bands();
        x.lasts(1, 0);
        x.under(1);
        x.setting(0);
        x.type('o');
        x.does();
        x.clear();
        x.back();
        x.refused(0);
        x.digest();
        Check.due("refused(4)", x.refused(4), 0);
        x.begins(500, 1000);
        x.holds(0, 1000);
        x.passes(0, 1);
        x.rests(3500);
        x.loads(1, 1);
        Check.due("refused(4)", x.refused(4), 5);
    }

    private static void refused() {
        GaugeBounds x = new GaugeBounds();
        for (int what : new int[] {-1, 5, Integer.MIN_VALUE, Integer.MAX_VALUE}) {
            Check.due("refused(" + what + ")", x.refused(what), GaugeBounds.BAD);
        }
        Check.due("refused(0)", x.refused(0), 4);
        x.curve(0, 9999);
        x.back();
        x.under(1);
        Check.due("refused(1)", x.refused(1), 3);
        Check.type(x, " ".repeat(122));
        Check.due("refused(2)", x.refused(2), 2);
        Check.due("refused(3)", x.refused(3), 120);
        x.offset(1);
        Check.due("refused(4)", x.refused(4), 1);
        Check.due("refused(0) as it was", x.refused(0), 4);
    }
}
