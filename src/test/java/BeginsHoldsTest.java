/** Promises 2 (begins) and 3 (holds). */
public final class BeginsHoldsTest {
    public static void main(String[] args) {
        beginsForgets();
        beginsKeepsSettings();
        beginsEdges();
        beginsParts();
        holds();
        holdsEdges();
        Check.end("BeginsHoldsTest");
    }

    private static GaugeBounds used() {
        GaugeBounds x = new GaugeBounds();
        x.offset(0);
        x.clings(0);
        x.rests(4000);
        x.passes(10, 30);
        x.rests(3500);
        x.passes(10, 10);
        x.rests(3350);
        x.loads(5, 3000);
        x.loads(-5, 3900);
        x.passes(3, 2);
        return x;
    }

    private static void beginsForgets() {
        GaugeBounds x = used();
        Check.due("CLASHES ahead", x.told(8), 2);
        Check.due("BANDS ahead", x.band(0, 3, 1) + x.band(1, 3, 1), 2);
        Check.due("SHOWN ahead is below 100", x.told(5) < 100 ? 1 : 0, 1);
        Check.due("begins(900, 2000)", x.begins(900, 2000), 600);
        long[] told = {0, 2000, 900, 2000, 689, 100, 0, 0, 0, 0, GaugeBounds.NONE, GaugeBounds.NONE};
        for (int what = 0; what < told.length; what++) {
            Check.due("told(" + what + ") behind begins", x.told(what), told[what]);
        }
        Check.due("bands()", x.bands(), 0);
        for (int tenth = 0; tenth <= 10; tenth++) {
            for (int sign = 0; sign <= 1; sign++) {
                Check.due("band(.., 0)", x.band(sign, tenth, 0), GaugeBounds.NONE);
                Check.due("band(.., 1)", x.band(sign, tenth, 1), 0);
            }
        }
        Check.due("loads(5, 3600)", x.loads(5, 3600), 1780);
        Check.due("nothing of the BAND is left", x.band(0, 6, 0), 1780);
        x.holds(500, 500);
        Check.due("loads(5, 3000)", x.loads(5, 3000), 6880);
        Check.due("nothing of the BAND is left", x.band(0, 3, 0), 6880);
        Check.due("loads(-5, 3000)", x.loads(-5, 3000), -6880);
        Check.due("nothing of the BAND is left", x.band(1, 3, 0), -6880);
        x.passes(10, 10);
        x.rests(3300);
        Check.due("no REST was ahead: C", x.told(2), 900);
        Check.due("no REST was ahead: D", x.told(3), 2000);
        Check.due("no REST was ahead: RESTS", x.told(9), 1);
    }

    private static void beginsKeepsSettings() {
        GaugeBounds x = new GaugeBounds();
        x.offset(7);
        x.clings(77);
        x.curve(3, 3333);
        x.begins(1, 2);
        Check.due("OFFSET", x.setting(0), 7);
        Check.due("CLING", x.setting(1), 77);
        Check.due("a point", x.setting(5), 3333);
    }

    private static void beginsEdges() {
        GaugeBounds x = new GaugeBounds();
        Check.due("begins(0, 0)", x.begins(0, 0), 500);
        Check.due("begins(99999, 99999)", x.begins(99999, 99999), 0);
        Check.due("H", x.told(1), 99999);
        Check.due("begins(0, 99999)", x.begins(0, 99999), 99999);
        Check.due("begins(-1, 0)", x.begins(-1, 0), GaugeBounds.BAD);
        Check.due("begins(0, 100000)", x.begins(0, 100000), GaugeBounds.BAD);
        Check.due("begins(100000, 100000)", x.begins(100000, 100000), GaugeBounds.BAD);
        Check.due("begins(5, 4)", x.begins(5, 4), GaugeBounds.BAD);
        Check.due("begins(-2, -1)", x.begins(-2, -1), GaugeBounds.BAD);
        Check.due("begins(least, most)", x.begins(Integer.MIN_VALUE, Integer.MAX_VALUE), GaugeBounds.BAD);
        Check.due("refused(0)", x.refused(0), 6);
        Check.due("refused(4)", x.refused(4), 3);
        Check.due("C stays", x.told(2), 0);
        Check.due("D stays", x.told(3), 99999);
    }

    private static void beginsParts() {
        GaugeBounds x = new GaugeBounds();
        x.begins(0, 0);
        Check.due("SHOWN behind begins(0, 0)", x.told(5), 100);
        Check.due("MIDDLE, if C + D is 0", x.told(4), 0);
        Check.due("back()", x.back(), 0);
        Check.due("C is back", x.told(2), 500);
        Check.due("D is back", x.told(3), 1000);
        x.begins(7, 8);
        x.passes(0, 3);
        x.loads(-9, 0);
        x.begins(9, 10);
        Check.due("back()", x.back(), 3);
        Check.due("C is back", x.told(2), 7);
        Check.due("D is back", x.told(3), 8);
        Check.due("STEPS are back", x.told(7), 3);
        Check.due("a BAND is back", x.bands(), 1);
    }

    private static void holds() {
        GaugeBounds x = new GaugeBounds();
        x.passes(1, 30);
        Check.due("SHOWN", x.told(5), 70);
        Check.due("holds(200, 300)", x.holds(200, 300), 1000);
        Check.due("L", x.told(0), 200);
        Check.due("H", x.told(1), 300);
        Check.due("SHOWN is as it is", x.told(5), 70);
        Check.due("DRAWN is as it is", x.told(6), 30);
        Check.due("STEPS are as they are", x.told(7), 30);
        Check.due("holds(0, 0)", x.holds(0, 0), 300);
        Check.due("SHOWN is as it is, though H is 0", x.told(5), 70);
        Check.due("refused(4)", x.refused(4), 3);
        Check.due("back()", x.back(), 2);
        Check.due("H is back", x.told(1), 300);
    }

    private static void holdsEdges() {
        GaugeBounds x = new GaugeBounds();
        Check.due("holds(1000, 1000)", x.holds(1000, 1000), 1000);
        Check.due("MIDDLE is 1000 at most", x.told(4), 1000);
        Check.due("holds(0, 1001)", x.holds(0, 1001), GaugeBounds.BAD);
        Check.due("holds(5, 4)", x.holds(5, 4), GaugeBounds.BAD);
        Check.due("holds(-1, 4)", x.holds(-1, 4), GaugeBounds.BAD);
        Check.due("holds(-2, -1)", x.holds(-2, -1), GaugeBounds.BAD);
        Check.due("L stays", x.told(0), 1000);
        x.begins(0, 99999);
        Check.due("holds(99999, 99999)", x.holds(99999, 99999), 99999);
        Check.due("holds(99999, 100000)", x.holds(99999, 100000), GaugeBounds.BAD);
        Check.due("refused(0)", x.refused(0), 5);
    }
}
