/** Edges of what is worked out: the rising CURVE and V(p), MIDDLE, LOAD, BANDS, RESISTANCE, under, LASTS. */
public final class EdgeAskedTest {
    public static void main(String[] args) {
        curveRises();
        curveInTheMiddle();
        curveFromEndToEnd();
        voltsAtEachPoint();
        voltsAreCut();
        everyPlace();
        middleIsCut();
        middleIsThousandAtMost();
        middleWithoutCapacity();
        largestNumbers();
        loadIsCutToZero();
        loadBySign();
        loadByTenth();
        resistanceIsCutToZero();
        howManyCame();
        bandsAreCounted();
        underIsCutToZero();
        underIsNo();
        lastsAtLeast();
        lastsAtMost();
        lastsWithoutEnd();
        toldOfNoRest();
        Check.end("EdgeAskedTest");
    }

    private static void curveRises() {
        Script.run("the first point", "curve(0, 3100) = NO | curve(0, 3101) = NO | curve(0, 9999) = NO",
            "setting(2) = 3000 | NOS = 3",
            "curve(0, 3099) = 3000 | setting(2) = 3099 | curve(0, 0) = 3099 | NOS = 3");
        Script.run("the last point", "curve(10, 3900) = NO | curve(10, 3899) = NO | curve(10, 0) = NO",
            "setting(12) = 4000 | NOS = 3",
            "curve(10, 3901) = 4000 | setting(12) = 3901 | curve(10, 9999) = 3901 | NOS = 3");
        Script.run("the second and the last but one", "curve(1, 3000) = NO | curve(1, 3200) = NO | curve(1, 3001) = 3100",
            "curve(1, 3199) = 3001",
            "curve(9, 3800) = NO | curve(9, 4000) = NO | curve(9, 3801) = 3900 | curve(9, 3999) = 3801");
        Script.run("the same once more", "curve(5, 3500) = 3500 | STATES = 1 | curve(0, 3000) = 3000",
            "curve(10, 4000) = 4000 | STATES = 3");
    }

    private static void curveInTheMiddle() {
        for (int k = 1; k <= 9; k++) {
            int was = 3000 + 100 * k;
            String point = "curve(" + k + ", ";
            String told = "setting(" + (k + 2) + ") = ";
            Script.run("point " + k, point + (was - 100) + ") = NO", point + (was + 100) + ") = NO", told + was,
                "STATES = 0 | NOS = 2", point + (was - 99) + ") = " + was, point + (was + 99) + ") = " + (was - 99),
                told + (was + 99), "STATES = 2 | NOS = 2");
        }
    }

    /** The lowest curve there is, and the highest. */
    private static void curveFromEndToEnd() {
        String[] low = new String[11];
        String[] high = new String[11];
        for (int k = 0; k <= 10; k++) {
            low[k] = "curve(" + k + ", " + k + ") = " + (3000 + 100 * k);
            high[k] = "curve(" + (10 - k) + ", " + (9999 - k) + ") = " + (4000 - 100 * k);
        }
        GaugeBounds x = Script.run("0 to 10", low);
        Check.due("the lowest: volts(0)", x.volts(0), 0);
        Check.due("the lowest: volts(99)", x.volts(99), 0);
        Check.due("the lowest: volts(100)", x.volts(100), 1);
        Check.due("the lowest: volts(999)", x.volts(999), 9);
        Check.due("the lowest: volts(1000)", x.volts(1000), 10);
        Check.due("the lowest: curve(0, 1)", x.curve(0, 1), GaugeBounds.NO);
        Check.due("the lowest: curve(1, 0)", x.curve(1, 0), GaugeBounds.NO);
        GaugeBounds y = Script.run("9989 to 9999", high);
        Check.due("the highest: volts(0)", y.volts(0), 9989);
        Check.due("the highest: volts(1000)", y.volts(1000), 9999);
        Check.due("the highest: curve(9, 9999)", y.curve(9, 9999), GaugeBounds.NO);
        Check.due("the highest: curve(10, 9998)", y.curve(10, 9998), GaugeBounds.NO);
    }

    private static void voltsAtEachPoint() {
        GaugeBounds x = Script.run("points that are not apart by the same", "curve(10, 9999)", "curve(9, 8000)", "curve(8, 6000)",
            "curve(7, 5000)");
        int[] points = {3000, 3100, 3200, 3300, 3400, 3500, 3600, 5000, 6000, 8000, 9999};
        for (int k = 0; k <= 10; k++) {
            Check.due("V at point " + k, x.volts(100 * k), points[k]);
        }
        for (int k = 0; k < 10; k++) {
            int rise = points[k + 1] - points[k];
            Check.due("V behind point " + k, x.volts(100 * k + 1), points[k] + rise / 100);
            Check.due("V ahead of point " + (k + 1), x.volts(100 * k + 99), points[k] + rise * 99 / 100);
        }
    }

    private static void voltsAreCut() {
        Script.run("one by 100", "curve(9, 3801) | volts(800) = 3800 | volts(801) = 3800 | volts(899) = 3800",
            "volts(900) = 3801");
        Script.run("199 by 100", "curve(10, 4099) | volts(901) = 3901 | volts(902) = 3903 | volts(999) = 4097",
            "volts(1000) = 4099");
        Script.run("the widest rise", "curve(10, 9999) | curve(9, 9998) | curve(8, 9997) | curve(7, 9996) | curve(6, 9995)",
            "curve(5, 9994) | curve(4, 9993) | curve(3, 9992) | curve(2, 9991) | curve(1, 9990) | curve(0, 0)",
            "volts(1) = 99 | volts(99) = 9890 | volts(100) = 9990 | volts(999) = 9998 | volts(1000) = 9999");
    }

    private static void everyPlace() {
        for (int from = 0; from <= 1000; from += 500) {
            GaugeBounds x = new GaugeBounds();
            for (int p = from; p < from + 500 && p <= 1000; p++) {
                Check.due("volts(" + p + ") at first", x.volts(p), 3000 + p);
            }
        }
    }

    private static void middleIsCut() {
        Script.run("1000 by 1500", "holds(0, 1) | MIDDLE = 0");
        Script.run("2000 by 1500", "holds(1, 1) | MIDDLE = 1");
        Script.run("3000 by 1500", "holds(1, 2) | MIDDLE = 2");
        Script.run("just below a whole", "begins(1000, 1000) | holds(499, 500) | MIDDLE = 499 | holds(500, 500)",
            "MIDDLE = 500");
        Script.run("H is 0", "holds(0, 0) | MIDDLE = 0");
    }

    private static void middleIsThousandAtMost() {
        String ready = "begins(999, 1001) | ";
        Script.run("999.5", ready + "holds(999, 1000) | MIDDLE = 999 | volts(999) = 3999 | loads(1, 3999) = 0",
            "band(0, 9, 1) = 1");
        Script.run("1000", ready + "holds(1000, 1000) | MIDDLE = 1000 | loads(1, 4000) = 0 | band(0, 10, 1) = 1");
        Script.run("1000.5", ready + "holds(1000, 1001) | MIDDLE = 1000");
        Script.run("1001", ready + "holds(1001, 1001) | MIDDLE = 1000 | loads(1, 4000) = 0 | band(0, 10, 1) = 1");
        Script.run("2000, C is 0", "begins(0, 1000) | holds(1000, 1000) | MIDDLE = 1000 | passes(0, 1) | SHOWN = 100");
    }

    private static void middleWithoutCapacity() {
        Script.run("C + D is 0", "begins(0, 0) | MIDDLE = 0 | loads(1, 3000) = 0 | band(0, 0, 1) = 1 | under(1) = 3000",
            "under(-1) = NO");
        Script.run("C + D is 1", "begins(0, 1) | MIDDLE = 1000 | holds(0, 0) | MIDDLE = 0 | holds(1, 1) | MIDDLE = 1000");
        Script.run("C + D is 2", "begins(1, 1) | MIDDLE = 500 | holds(1, 1) | MIDDLE = 1000");
    }

    private static void largestNumbers() {
        Script.run("all are 99999", "clings(0) | begins(99999, 99999) | MIDDLE = 500 | holds(99999, 99999) | MIDDLE = 1000",
            "rests(4000) = 0 | L = 99999 | H = 99999 | CLASHES = 0 | lasts(1, 0) = 49999 | lasts(2, 1) = 99999",
            "lasts(99, 1) = 1020");
    }

    private static void loadIsCutToZero() {
        // V(MIDDLE) is 3666
        Script.run("above 0", "loads(99, 3665) = 1 | loads(51, 3665) = 1 | loads(50, 3665) = 2 | loads(3, 3665) = 33",
            "loads(3, 3664) = 66");
        Script.run("below 0", "loads(99, 3667) = -1 | loads(51, 3667) = -1 | loads(50, 3667) = -2 | loads(3, 3667) = -33",
            "loads(3, 3668) = -66");
        Script.run("charged", "loads(-99, 3667) = 1 | loads(-3, 3668) = 66 | loads(-99, 3665) = -1 | loads(-3, 3664) = -66");
        Script.run("the voltage itself", "loads(1, 3666) = 0 | loads(-1, 3666) = 0 | band(0, 6, 0) = 0",
            "band(1, 6, 0) = 0 | bands() = 2");
    }

    private static void loadBySign() {
        Script.run("i 1 is drawn", "loads(1, 3666) | band(0, 6, 1) = 1 | band(1, 6, 1) = 0");
        Script.run("i -1 is charged", "loads(-1, 3666) | band(0, 6, 1) = 0 | band(1, 6, 1) = 1");
        Script.run("by i, not by r", "loads(1, 9999) = -633300 | band(0, 6, 0) = -633300 | band(1, 6, 0) = NONE");
    }

    private static void loadByTenth() {
        for (int tenth = 1; tenth <= 10; tenth++) {
            Script.run("MIDDLE " + (100 * tenth - 1), "begins(0, 1000) | holds(0, " + (100 * tenth - 1) + ")",
                "loads(1, 0) | loads(-1, 0)", "band(0, " + (tenth - 1) + ", 1) = 1", "band(1, " + (tenth - 1) + ", 1) = 1",
                "band(0, " + tenth + ", 1) = 0", "band(1, " + tenth + ", 1) = 0", "bands() = 2");
            Script.run("MIDDLE " + 100 * tenth, "begins(0, 1000) | holds(0, " + 100 * tenth + ")",
                "loads(1, 0) | loads(-1, 0)", "band(0, " + (tenth - 1) + ", 1) = 0", "band(1, " + (tenth - 1) + ", 1) = 0",
                "band(0, " + tenth + ", 1) = 1", "band(1, " + tenth + ", 1) = 1", "bands() = 2");
        }
        Script.run("MIDDLE 0", "holds(0, 0) | loads(1, 3000) | band(0, 0, 1) = 1 | bands() = 1");
    }

    private static void resistanceIsCutToZero() {
        Script.run("-1 by 2", "loads(99, 3667) = -1 | loads(99, 3666) = 0 | band(0, 6, 0) = 0 | band(0, 6, 1) = 2");
        Script.run("-3 by 2", "loads(99, 3667) = -1 | loads(50, 3667) = -2 | band(0, 6, 0) = -1");
        Script.run("1 by 2", "loads(99, 3665) = 1 | loads(99, 3666) = 0 | band(0, 6, 0) = 0");
        Script.run("3 by 2", "loads(99, 3665) = 1 | loads(50, 3665) = 2 | band(0, 6, 0) = 1");
        Script.run("the sum is 0", "loads(1, 3665) = 100 | loads(1, 3667) = -100 | band(0, 6, 0) = 0 | band(0, 6, 1) = 2",
            "bands() = 1");
        Script.run("r is cut ahead of the sum", "loads(3, 3665) = 33 | loads(3, 3665) = 33 | loads(3, 3665) = 33",
            "band(0, 6, 0) = 33");
    }

    private static void howManyCame() {
        Script.run("none", "band(0, 6, 0) = NONE | band(0, 6, 1) = 0 | BADS = 0 | NOS = 0");
        Script.run("one", "loads(1, 3666) | band(0, 6, 0) = 0 | band(0, 6, 1) = 1 | back() | band(0, 6, 0) = NONE",
            "band(0, 6, 1) = 0");
        Script.run("one that was BAD", "loads(0, 3666) = BAD | loads(1, 10000) = BAD | band(0, 6, 0) = NONE",
            "band(0, 6, 1) = 0");
    }

    private static void bandsAreCounted() {
        GaugeBounds x = Script.run("no BAND", "begins(0, 1000) | bands() = 0");
        for (int tenth = 0; tenth <= 10; tenth++) {
            x.holds(0, 100 * tenth);
            Check.due("loads(1, 3000)", x.loads(1, 3000), 10000 * tenth);
            Check.due("bands(), drawn", x.bands(), 2 * tenth + 1);
            Check.due("loads(-1, 3000)", x.loads(-1, 3000), -10000 * tenth);
            Check.due("bands(), charged", x.bands(), 2 * tenth + 2);
            Check.due("loads(-1, 3000)", x.loads(-1, 3000), -10000 * tenth);
            Check.due("bands(), the same", x.bands(), 2 * tenth + 2);
        }
        Check.due("begins(0, 1)", x.begins(0, 1), 0);
        Check.due("bands() behind begins", x.bands(), 0);
    }

    private static void underIsCutToZero() {
        Script.run("99 by 100", "loads(99, 3665) = 1 | under(99) = 3666 | under(1) = 3666");
        Script.run("-99 by 100", "loads(99, 3667) = -1 | under(99) = 3666 | under(1) = 3666");
        Script.run("100 by 100", "loads(50, 3665) = 2 | under(50) = 3665 | under(49) = 3666 | under(99) = 3665");
        Script.run("-100 by 100", "loads(50, 3667) = -2 | under(50) = 3667 | under(49) = 3666 | under(99) = 3667");
        Script.run("charged", "loads(-50, 3667) = 2 | under(-50) = 3667 | under(-49) = 3666 | under(-99) = 3667");
        Script.run("charged, below 0", "loads(-50, 3665) = -2 | under(-50) = 3665 | under(-49) = 3666 | under(-99) = 3665");
        Script.run("below 0 and above 9999", "loads(1, 0) = 366600 | under(99) = -359268 | loads(-1, 9999) = 633300",
            "under(-99) = 630633");
    }

    private static void underIsNo() {
        Script.run("none came at all", "under(1) = NO | under(-1) = NO | under(99) = NO | under(-99) = NO | NOS = 4",
            "STATES = 0");
        Script.run("none came of its SIGN", "loads(1, 3666) | under(1) = 3666 | under(-1) = NO | loads(-1, 3666)",
            "under(-1) = 3666 | NOS = 1");
        Script.run("none came of its TENTH", "begins(0, 1000) | holds(0, 199) | loads(1, 3199) | under(1) = 3199",
            "holds(0, 200) | under(1) = NO | holds(0, 100) | under(1) = 3100 | holds(0, 99) | under(1) = NO | NOS = 2");
        Script.run("it was taken back", "loads(1, 3666) | back() | under(1) = NO");
    }

    private static void lastsAtLeast() {
        Script.run("L is one less than i + o", "holds(9, 1000) | lasts(9, 0) = 0");
        Script.run("L is i + o", "holds(10, 1000) | lasts(9, 0) = 1");
        Script.run("L is one less than twice i + o", "holds(19, 1000) | lasts(9, 0) = 1");
        Script.run("L is 0", "lasts(1, 0) = 0 | lasts(99, 0) = 0");
        Script.run("at least has an end by any i", "offset(9) | holds(100, 1000) | lasts(1, 0) = 10 | lasts(9, 0) = 5");
    }

    private static void lastsAtMost() {
        Script.run("H is one less than i - o", "holds(0, 7) | lasts(9, 1) = 0");
        Script.run("H is i - o", "holds(0, 8) | lasts(9, 1) = 1");
        Script.run("H is one less than twice i - o", "holds(0, 15) | lasts(9, 1) = 1");
        Script.run("H is 0", "holds(0, 0) | lasts(2, 1) = 0 | lasts(99, 1) = 0 | lasts(1, 1) = NONE");
    }

    private static void lastsWithoutEnd() {
        for (int o = 0; o <= 9; o++) {
            String[] rows = {"offset(" + o + ")", "lasts(" + (o + 1) + ", 1) = 1000", "BADS = 0 | NOS = 0"};
            Script.run("i is o + 1, o is " + o, rows);
            for (int i = 1; i <= o; i++) {
                Script.run("i is " + i + ", o is " + o, "offset(" + o + ")", "lasts(" + i + ", 1) = NONE",
                    "BADS = 0 | NOS = 0");
            }
        }
    }

    private static void toldOfNoRest() {
        Script.run("there was none", "a = NONE | b = NONE | RESTS = 0 | BADS = 0");
        Script.run("there was one", "rests(3000) | a = 0 | b = 10 | RESTS = 1");
        Script.run("none any more", "rests(3000) | begins(500, 1000) | a = NONE | b = NONE | RESTS = 0 | back() | a = 0",
            "b = 10 | RESTS = 1");
        Script.run("refused", "rests(2989) = NO | rests(-1) = BAD | a = NONE | b = NONE | RESTS = 0");
    }
}
