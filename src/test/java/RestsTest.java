/** Promise 8 (rests): what a REST narrows and learns, and CLASHES. */
public final class RestsTest {
    public static void main(String[] args) {
        narrows();
        learns();
        learnsCutAndUp();
        learnsWithOffset();
        clashesTwice();
        learnsAtTheEdges();
        learnsNothingFromCharging();
        capsByCapacity();
        refusals();
        changesPlaces();
        empties();
        farDrawn();
        Check.end("RestsTest");
    }

    private static void toldAre(GaugeBounds x, String when, int... want) {
        for (int what = 0; what < want.length; what++) {
            Check.due("told(" + what + ") " + when, x.told(what), want[what]);
        }
    }

    private static GaugeBounds exact() {
        GaugeBounds x = new GaugeBounds();
        x.offset(0);
        x.clings(0);
        return x;
    }

    private static void narrows() {
        GaugeBounds x = new GaugeBounds();
        x.begins(501, 999);
        x.passes(2, 3);
        Check.due("rests(3700)", x.rests(3700), 365);
        toldAre(x, "behind a REST", 345, 710, 501, 999, 703, 97, 0, 0, 0, 1, 690, 710);
        Check.due("rests(3650): only what narrows", x.rests(3650), 315);
        toldAre(x, "behind another", 345, 660, 501, 999);
        Check.due("RESTS", x.told(9), 2);
        Check.due("a", x.told(10), 640);
        Check.due("b", x.told(11), 660);
        Check.due("back()", x.back(), 3);
        Check.due("a is back", x.told(10), 690);
        Check.due("back()", x.back(), 2);
        Check.due("a is back: none", x.told(10), GaugeBounds.NONE);
        Check.due("DRAWN is back", x.told(6), 6);
    }

    private static void learns() {
        GaugeBounds x = exact();
        Check.due("rests(4000)", x.rests(4000), 500);
        x.passes(10, 30);
        Check.due("rests(3500)", x.rests(3500), 0);
        toldAre(x, "learnt", 300, 300, 600, 600, 500, 70, 0, 0, 0, 2, 500, 500);
    }

    private static void learnsCutAndUp() {
        GaugeBounds x = exact();
        x.begins(100, 5000);
        x.rests(4000);
        x.passes(10, 10);
        Check.due("rests(3700)", x.rests(3700), 1);
        toldAre(x, "cut and up", 233, 234, 333, 334);
    }

    private static void learnsWithOffset() {
        GaugeBounds x = new GaugeBounds();
        x.begins(10, 90000);
        x.rests(3900);
        x.offset(2);
        x.passes(20, 50);
        Check.due("e by (B - a), f by (A - b)", x.rests(3500), 428);
        // e 900 by 910 - 490, f 1100 by 890 - 510
        toldAre(x, "with an offset", 1049, 1477, 2142, 2895);
    }

    private static void clashesTwice() {
        GaugeBounds x = exact();
        x.rests(4000);
        x.passes(10, 30);
        x.rests(3500);
        x.passes(10, 10);
        Check.due("rests(3350)", x.rests(3350), 0);
        toldAre(x, "behind two CLASHES", 200, 200, 600, 600, 333, 60, 0, 0, 2, 3, 350, 350);
    }

    private static void learnsAtTheEdges() {
        toldAre(rested(3700, 1, 3699), "e 1, B - a 1", 699, 699, 1000, 1000);
        toldAre(rested(3703, 1, 3700), "f 1, up by a third", 233, 234, 333, 334);
        toldAre(rested(3700, 5, 3700), "B and a the same", 0, 3495, 0, 5000, 699, 99, 0, 0, 0);
        toldAre(rested(3700, 0, 3600), "nothing drawn", 0, 3000, 0, 5000, 600, 100, 0, 0, 0);
        toldAre(rested(3700, 5, 3800), "drawn, but it rose", 0, 3495, 0, 5000, 699, 99, 0, 0, 0);
        toldAre(rested(3700, -5, 3600), "charged, but it fell", 5, 3000, 0, 5000, 601, 100, 0, 0, 0);
        GaugeBounds x = exact();
        x.begins(0, 1001);
        Check.due("b D / 1000, up by a thousandth", x.rests(3001), 2);
    }

    private static GaugeBounds rested(int v, int i, int then) {
        GaugeBounds x = exact();
        x.begins(0, 5000);
        x.rests(v);
        x.passes(i, 1);
        x.rests(then);
        return x;
    }

    private static void learnsNothingFromCharging() {
        GaugeBounds x = exact();
        x.begins(100, 5000);
        x.holds(100, 4000);
        x.rests(3200);
        x.passes(-10, 10);
        x.rests(3700);
        toldAre(x, "charged", 200, 1100, 100, 5000);
        x.passes(1, 1);
        x.rests(3800);
        Check.due("drawn, but the voltage rose: C", x.told(2), 100);
        Check.due("drawn, but the voltage rose: D", x.told(3), 5000);
        x.passes(0, 5);
        x.rests(3100);
        Check.due("nothing drawn, but it fell: C", x.told(2), 100);
        Check.due("nothing drawn, but it fell: D", x.told(3), 5000);
    }

    private static void capsByCapacity() {
        GaugeBounds x = exact();
        x.begins(100, 5000);
        x.rests(4000);
        x.passes(10, 10);
        x.holds(4000, 4500);
        Check.due("rests(3700)", x.rests(3700), 0);
        toldAre(x, "capped by D", 334, 334, 333, 334);
        Check.due("CLASHES", x.told(8), 1);
    }

    private static void refusals() {
        GaugeBounds x = new GaugeBounds();
        x.passes(1, 1);
        Check.due("rests(-1)", x.rests(-1), GaugeBounds.BAD);
        Check.due("rests(10000)", x.rests(10000), GaugeBounds.BAD);
        Check.due("rests(2989): no b", x.rests(2989), GaugeBounds.NO);
        Check.due("rests(4011): no a", x.rests(4011), GaugeBounds.NO);
        Check.due("rests(0)", x.rests(0), GaugeBounds.NO);
        Check.due("rests(9999)", x.rests(9999), GaugeBounds.NO);
        Check.due("RESTS", x.told(9), 0);
        Check.due("DRAWN", x.told(6), 1);
        Check.due("refused(0)", x.refused(0), 2);
        Check.due("refused(1)", x.refused(1), 4);
        Check.due("refused(4)", x.refused(4), 1);
        Check.due("rests(4010)", x.rests(4010), 500);
        Check.due("a", x.told(10), 1000);
        x.begins(500, 1000);
        Check.due("rests(2990)", x.rests(2990), 0);
        Check.due("b", x.told(11), 0);
    }

    private static void changesPlaces() {
        GaugeBounds x = exact();
        x.curve(10, 9999);
        x.rests(5000);
        Check.due("a", x.told(10), 918);
        Check.due("b", x.told(11), 919);
        Check.due("L", x.told(0), 459);
        Check.due("H", x.told(1), 919);
    }

    private static void empties() {
        GaugeBounds x = exact();
        Check.due("rests(3001)", x.rests(3001), 1);
        Check.due("SHOWN", x.told(5), 100);
        Check.due("rests(3000)", x.rests(3000), 0);
        Check.due("SHOWN, as H is 0", x.told(5), 0);
    }

    /** So much is drawn that a thousand times it is more than an int holds. */
    private static void farDrawn() {
        GaugeBounds x = exact();
        x.begins(0, 99999);
        x.rests(4000);
        x.offset(9);
        Check.type(x, "p9 999;".repeat(17));
        for (int time = 0; time < 10; time++) {
            Check.due("does()", x.does(), 17);
        }
        Check.due("DRAWN", x.told(6), 1528470);
        x.rests(3000);
        Check.due("D", x.told(3), 99999);
        Check.due("C", x.told(2), 0);
        Check.due("CLASHES", x.told(8), 0);
    }
}
