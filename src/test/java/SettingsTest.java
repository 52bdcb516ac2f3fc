/** Promises 4 (offset), 5 (clings), 6 (curve) and 17 (setting). */
public final class SettingsTest {
    public static void main(String[] args) {
        offset();
        clings();
        curve();
        curveMustRise();
        setting();
        Check.end("SettingsTest");
    }

    private static void offset() {
        GaugeBounds x = new GaugeBounds();
        Check.due("offset(9)", x.offset(9), 1);
        Check.due("offset(0)", x.offset(0), 9);
        Check.due("offset(10)", x.offset(10), GaugeBounds.BAD);
        Check.due("offset(-1)", x.offset(-1), GaugeBounds.BAD);
        Check.due("setting(0)", x.setting(0), 0);
        Check.due("refused(4)", x.refused(4), 2);
        Check.due("back()", x.back(), 1);
        Check.due("setting(0) back", x.setting(0), 9);
        Check.due("offset(9), the same", x.offset(9), 9);
        Check.due("it leaves a STATE all the same", x.refused(4), 2);
    }

    private static void clings() {
        GaugeBounds x = new GaugeBounds();
        Check.due("clings(500)", x.clings(500), 10);
        Check.due("clings(0)", x.clings(0), 500);
        Check.due("clings(501)", x.clings(501), GaugeBounds.BAD);
        Check.due("clings(-1)", x.clings(-1), GaugeBounds.BAD);
        Check.due("setting(1)", x.setting(1), 0);
        Check.due("refused(0)", x.refused(0), 2);
        Check.due("back()", x.back(), 1);
        Check.due("setting(1) back", x.setting(1), 500);
    }

    private static void curve() {
        GaugeBounds x = new GaugeBounds();
        Check.due("curve(0, 0)", x.curve(0, 0), 3000);
        Check.due("curve(10, 9999)", x.curve(10, 9999), 4000);
        Check.due("curve(5, 3401)", x.curve(5, 3401), 3500);
        Check.due("curve(5, 3599)", x.curve(5, 3599), 3401);
        Check.due("setting(2)", x.setting(2), 0);
        Check.due("setting(12)", x.setting(12), 9999);
        Check.due("setting(7)", x.setting(7), 3599);
        Check.due("back()", x.back(), 3);
        Check.due("setting(7) back", x.setting(7), 3401);
        Check.due("curve(-1, 5)", x.curve(-1, 5), GaugeBounds.BAD);
        Check.due("curve(11, 5)", x.curve(11, 5), GaugeBounds.BAD);
        Check.due("curve(0, -1)", x.curve(0, -1), GaugeBounds.BAD);
        Check.due("curve(10, 10000)", x.curve(10, 10000), GaugeBounds.BAD);
        Check.due("refused(0)", x.refused(0), 4);
        Check.due("refused(1)", x.refused(1), 0);
    }

    private static void curveMustRise() {
        GaugeBounds x = new GaugeBounds();
        Check.due("curve(0, 3100)", x.curve(0, 3100), GaugeBounds.NO);
        Check.due("curve(0, 3099)", x.curve(0, 3099), 3000);
        Check.due("curve(10, 3900)", x.curve(10, 3900), GaugeBounds.NO);
        Check.due("curve(10, 3901)", x.curve(10, 3901), 4000);
        Check.due("curve(4, 3300)", x.curve(4, 3300), GaugeBounds.NO);
        Check.due("curve(4, 3500)", x.curve(4, 3500), GaugeBounds.NO);
        Check.due("curve(1, 3099)", x.curve(1, 3099), GaugeBounds.NO);
        Check.due("curve(9, 3901)", x.curve(9, 3901), GaugeBounds.NO);
        Check.due("setting(6)", x.setting(6), 3400);
        Check.due("refused(1)", x.refused(1), 6);
        Check.due("refused(4)", x.refused(4), 2);
    }

    private static void setting() {
        GaugeBounds x = new GaugeBounds();
        Check.due("setting(-1)", x.setting(-1), GaugeBounds.BAD);
        Check.due("setting(13)", x.setting(13), GaugeBounds.BAD);
        Check.due("setting(most)", x.setting(Integer.MAX_VALUE), GaugeBounds.BAD);
        Check.due("setting(least)", x.setting(Integer.MIN_VALUE), GaugeBounds.BAD);
        Check.due("refused(0)", x.refused(0), 4);
    }
}
