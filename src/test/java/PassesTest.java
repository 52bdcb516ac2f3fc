/** Promise 7 (passes) and SHOWN behind it. */
public final class PassesTest {
    public static void main(String[] args) {
        bounds();
        chargeEdges();
        wrongNumbers();
        drawnAndSteps();
        shown();
        shownWhenEmpty();
        Check.end("PassesTest");
    }

    private static void bounds() {
        GaugeBounds x = new GaugeBounds();
        x.begins(500, 2000);
        x.holds(400, 1000);
        x.offset(2);
        Check.due("passes(10, 5)", x.passes(10, 5), 620);
        Check.due("L", x.told(0), 340);
        Check.due("H", x.told(1), 960);
        Check.due("passes(0, 5)", x.passes(0, 5), 640);
        Check.due("L", x.told(0), 330);
        Check.due("H", x.told(1), 970);
        Check.due("passes(-10, 10)", x.passes(-10, 10), 680);
        Check.due("L", x.told(0), 410);
        Check.due("H", x.told(1), 1090);
        Check.due("passes(-1, 1), L falls though it is charged", x.passes(-1, 1), 684);
        Check.due("L", x.told(0), 409);
        Check.due("passes(1, 1), H rises though it is drawn", x.passes(1, 1), 688);
        Check.due("H", x.told(1), 1094);
        Check.due("back()", x.back(), 4);
        Check.due("H is back", x.told(1), 1093);
    }

    private static void chargeEdges() {
        GaugeBounds x = new GaugeBounds();
        x.offset(0);
        x.begins(1000, 1000);
        x.holds(500, 600);
        Check.due("passes(-10, 50): L comes to D", x.passes(-10, 50), 0);
        Check.due("L", x.told(0), 1000);
        Check.due("H is D at most", x.told(1), 1000);
        Check.due("passes(-1, 1): L above D", x.passes(-1, 1), GaugeBounds.NO);
        x.holds(10, 600);
        Check.due("passes(60, 10): H comes to 0", x.passes(60, 10), 0);
        Check.due("L is 0 at least", x.told(0), 0);
        Check.due("passes(1, 1): H below 0", x.passes(1, 1), GaugeBounds.NO);
        Check.due("H stays", x.told(1), 0);
        Check.due("DRAWN stays", x.told(6), 100);
        Check.due("STEPS stay", x.told(7), 60);
        Check.due("refused(1)", x.refused(1), 2);
        Check.due("refused(4)", x.refused(4), 5);
        x.begins(0, 99999);
        Check.due("passes(99, 999)", x.passes(99, 999), 1098);
        Check.due("passes(-99, 999)", x.passes(-99, 999), 1098);
    }

    private static void wrongNumbers() {
        GaugeBounds x = new GaugeBounds();
        int[][] wrong = {{100, 1}, {-100, 1}, {0, 0}, {0, 1000}, {0, -1},
            {Integer.MIN_VALUE, 1}, {Integer.MAX_VALUE, 1}, {1, Integer.MAX_VALUE}, {1, Integer.MIN_VALUE}};
        for (int[] n : wrong) {
            Check.due("passes(" + n[0] + ", " + n[1] + ")", x.passes(n[0], n[1]), GaugeBounds.BAD);
        }
        Check.due("refused(0)", x.refused(0), wrong.length);
        Check.due("refused(4)", x.refused(4), 0);
        Check.due("STEPS", x.told(7), 0);
    }

    private static void drawnAndSteps() {
        GaugeBounds x = new GaugeBounds();
        x.passes(3, 4);
        x.passes(-2, 5);
        x.passes(0, 7);
        Check.due("DRAWN", x.told(6), 2);
        Check.due("STEPS", x.told(7), 16);
        x.passes(-2, 9);
        Check.due("DRAWN below 0", x.told(6), -16);
    }

    private static void shown() {
        GaugeBounds x = new GaugeBounds();
        x.offset(0);
        x.begins(1000, 1000);
        shows(x, "n less", 1, 10, 90);
        shows(x, "t at least", 1, 100, 44);
        x.holds(900, 1000);
        shows(x, "drawn: never more than it was", 1, 5, 44);
        shows(x, "i 0, t above it: as it was", 0, 5, 44);
        shows(x, "n more", -1, 5, 49);
        shows(x, "t at most", -1, 90, 99);
        x.holds(0, 100);
        shows(x, "charged: never less than it was", -1, 5, 99);
        shows(x, "i 0: as it was", 0, 50, 99);
    }

    private static void shows(GaugeBounds x, String why, int i, int n, int want) {
        x.passes(i, n);
        Check.due("SHOWN, " + why, x.told(5), want);
    }

    private static void shownWhenEmpty() {
        GaugeBounds x = new GaugeBounds();
        x.offset(0);
        shows(x, "H is 0", 10, 100, 0);
        x.begins(0, 0);
        shows(x, "H is 0, i 0", 0, 1, 0);
        x.begins(0, 100);
        x.holds(0, 0);
        shows(x, "H is above 0 then", -1, 1, 100);
        x.holds(0, 1);
        shows(x, "H is 0, L too", 1, 1, 0);
        Check.due("back()", x.back(), 4);
        Check.due("SHOWN back", x.told(5), 100);
    }
}
