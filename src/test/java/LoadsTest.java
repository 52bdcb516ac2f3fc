/** Promises 9 (loads), 13 (band), 14 (bands) and 16 (under). */
public final class LoadsTest {
    public static void main(String[] args) {
        cutsToZero();
        tenths();
        wrongNumbers();
        back();
        manyLoads();
        Check.end("LoadsTest");
    }

    private static void cutsToZero() {
        GaugeBounds x = new GaugeBounds();
        Check.due("loads(3, 3667)", x.loads(3, 3667), -33);
        Check.due("band(0, 6, 0)", x.band(0, 6, 0), -33);
        Check.due("loads(3, 3668)", x.loads(3, 3668), -66);
        Check.due("RESISTANCE below 0 is cut to 0", x.band(0, 6, 0), -49);
        Check.due("band(0, 6, 1)", x.band(0, 6, 1), 2);
        Check.due("bands()", x.bands(), 1);
        Check.due("under(7)", x.under(7), 3669);
        Check.due("under(-7): none came to it", x.under(-7), GaugeBounds.NO);
        Check.due("loads(-3, 3667)", x.loads(-3, 3667), 33);
        Check.due("band(1, 6, 0)", x.band(1, 6, 0), 33);
        Check.due("bands()", x.bands(), 2);
        Check.due("under(-3)", x.under(-3), 3666);
        Check.due("under(-99)", x.under(-99), 3698);
        Check.due("loads(99, 0)", x.loads(99, 0), 3703);
        Check.due("RESISTANCE", x.band(0, 6, 0), 1201);
        Check.due("under(99)", x.under(99), 2478);
        Check.due("loads(-99, 9999)", x.loads(-99, 9999), 6396);
        Check.due("RESISTANCE, charged", x.band(1, 6, 0), 3214);
        Check.due("L stays", x.told(0), 0);
        Check.due("STEPS stay", x.told(7), 0);
    }

    private static void tenths() {
        GaugeBounds x = new GaugeBounds();
        x.begins(0, 1000);
        Check.due("loads(1, 4000), MIDDLE 1000", x.loads(1, 4000), 0);
        Check.due("band(0, 10, 0)", x.band(0, 10, 0), 0);
        Check.due("band(0, 10, 1)", x.band(0, 10, 1), 1);
        x.holds(499, 500);
        x.loads(-1, 4000);
        Check.due("MIDDLE 999: band(1, 9, 1)", x.band(1, 9, 1), 1);
        Check.due("band(1, 9, 0)", x.band(1, 9, 0), 100);
        x.holds(0, 99);
        x.loads(1, 3000);
        Check.due("MIDDLE 99: band(0, 0, 1)", x.band(0, 0, 1), 1);
        x.holds(0, 100);
        Check.due("under(1), MIDDLE 100", x.under(1), GaugeBounds.NO);
        x.loads(1, 3000);
        Check.due("MIDDLE 100: band(0, 1, 0)", x.band(0, 1, 0), 10000);
        Check.due("bands()", x.bands(), 4);
        x.begins(0, 0);
        Check.due("loads(-1, 0), C + D 0", x.loads(-1, 0), -300000);
        Check.due("band(1, 0, 0)", x.band(1, 0, 0), -300000);
        Check.due("bands()", x.bands(), 1);
    }

    private static void wrongNumbers() {
        GaugeBounds x = new GaugeBounds();
        int[][] loads = {{0, 0}, {100, 0}, {-100, 0}, {1, -1}, {1, 10000}, {Integer.MIN_VALUE, 5}};
        for (int[] n : loads) {
            Check.due("loads(" + n[0] + ", " + n[1] + ")", x.loads(n[0], n[1]), GaugeBounds.BAD);
        }
        int[][] bands = {{-1, 0, 0}, {2, 0, 0}, {0, -1, 0}, {0, 11, 0}, {1, 11, 1}, {0, -1, 1}, {0, 0, -1}, {0, 0, 2},
            {Integer.MAX_VALUE, Integer.MAX_VALUE, Integer.MAX_VALUE}};
        for (int[] n : bands) {
            Check.due("band(..)", x.band(n[0], n[1], n[2]), GaugeBounds.BAD);
        }
        for (int i : new int[] {0, 100, -100, Integer.MAX_VALUE, Integer.MIN_VALUE}) {
            Check.due("under(" + i + ")", x.under(i), GaugeBounds.BAD);
        }
        Check.due("refused(0)", x.refused(0), loads.length + bands.length + 5);
        Check.due("under(99)", x.under(99), GaugeBounds.NO);
        Check.due("under(-99)", x.under(-99), GaugeBounds.NO);
        Check.due("refused(1)", x.refused(1), 2);
        Check.due("bands()", x.bands(), 0);
        Check.due("refused(4)", x.refused(4), 0);
    }

    private static void back() {
        GaugeBounds x = new GaugeBounds();
        x.loads(10, 3400);
        x.loads(10, 3300);
        x.loads(-10, 3300);
        Check.due("back()", x.back(), 2);
        Check.due("bands()", x.bands(), 1);
        Check.due("back()", x.back(), 1);
        Check.due("band(0, 6, 0)", x.band(0, 6, 0), 2660);
        Check.due("band(0, 6, 1)", x.band(0, 6, 1), 1);
        x.loads(-10, 3300);
        x.loads(-10, 3400);
        Check.due("back()", x.back(), 2);
        Check.due("band(1, 6, 0)", x.band(1, 6, 0), -3660);
    }

    /** So many loads that their sum is more than an int holds. */
    private static void manyLoads() {
        GaugeBounds x = new GaugeBounds();
        x.begins(0, 1);
        x.curve(10, 9999);
        Check.type(x, "l1 0;".repeat(24));
        for (int time = 0; time < 100; time++) {
            Check.due("does()", x.does(), 24);
        }
        Check.due("band(0, 10, 1)", x.band(0, 10, 1), 2400);
        Check.due("band(0, 10, 0)", x.band(0, 10, 0), 999900);
        Check.due("under(99)", x.under(99), 9999 - 989901);
    }
}
