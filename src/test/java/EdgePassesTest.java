/** A PASSING's edges (promise 7): 0 at least, D at most, when it is NO, DRAWN and STEPS, and SHOWN. */
public final class EdgePassesTest {
    private static final String EXACT = "offset(0) = 1 | begins(1000, 1000) = 500";

    public static void main(String[] args) {
        lowIsZeroAtLeast();
        highIsCapacityAtMost();
        noIfHighIsBelowZero();
        noIfLowIsAboveCapacity();
        noLeavesAllAsItWas();
        aboveZeroIsDrawn();
        drawnAndStepsSinceTheRest();
        shownDrawn();
        shownDrawnNeverMore();
        shownCharged();
        shownChargedNeverLess();
        shownFromZeroToHundred();
        shownByReadingZero();
        shownIsZeroIfHighIs();
        shownStaysByOtherCalls();
        Check.end("EdgePassesTest");
    }

    private static void lowIsZeroAtLeast() {
        Script.run("L would be 1", "holds(13, 600) | passes(3, 3) = 593 | L = 1 | H = 594");
        Script.run("L would be 0", "holds(12, 600) | passes(3, 3) = 594 | L = 0 | H = 594");
        Script.run("L would be -1", "holds(11, 600) | passes(3, 3) = 594 | L = 0 | H = 594");
        Script.run("L is 0 and stays", "passes(99, 1) = 902 | L = 0 | H = 902");
        Script.run("L far below 0", "begins(0, 99999) | holds(5, 99999) | passes(99, 999) = 2097 | L = 0");
        Script.run("L falls to 0 by OFFSET alone, charged", "offset(9) | holds(9, 600) | passes(-8, 9) = 753 | L = 0",
            "H = 753");
    }

    private static void highIsCapacityAtMost() {
        Script.run("H would be D - 1", "holds(100, 990) | passes(0, 9) = 908 | L = 91 | H = 999");
        Script.run("H would be D", "holds(100, 990) | passes(0, 10) = 910 | L = 90 | H = 1000");
        Script.run("H would be D + 1", "holds(100, 990) | passes(0, 11) = 911 | L = 89 | H = 1000");
        Script.run("H is D and stays", "passes(-1, 5) = 1000 | L = 0 | H = 1000");
        Script.run("H rises by OFFSET alone, drawn", "offset(9) | holds(500, 999) | passes(8, 1) = 517 | L = 483 | H = 1000",
            "passes(8, 1) = 534 | L = 466 | H = 1000");
        Script.run("D, not C", "begins(10, 20) | holds(0, 10) | passes(-1, 1) = 12 | H = 12");
        Script.run("D is 99999", "begins(0, 99999) | holds(0, 99997) | passes(0, 1) = 99998 | passes(0, 1) = 99999",
            "passes(0, 1) = 99999");
    }

    private static void noIfHighIsBelowZero() {
        Script.run("H would be 1", EXACT, "holds(0, 10) | passes(9, 1) = 1 | H = 1 | NOS = 0");
        Script.run("H would be 0", EXACT, "holds(0, 10) | passes(10, 1) = 0 | H = 0 | NOS = 0");
        Script.run("H would be -1", EXACT, "holds(0, 10) | passes(11, 1) = NO | H = 10 | NOS = 1");
        Script.run("H is 0 and drawn", EXACT, "holds(0, 0) | passes(1, 1) = NO | passes(0, 999) = 0 | H = 0");
        Script.run("H by steps", EXACT, "holds(0, 998) | passes(1, 999) = NO | passes(1, 998) = 0");
        Script.run("H with OFFSET: to 0", "holds(0, 18) | passes(10, 2) = 0 | H = 0");
        Script.run("H with OFFSET: to -1", "holds(0, 17) | passes(10, 2) = NO | H = 17");
        Script.run("H stays by i of OFFSET", "holds(0, 0) | passes(1, 999) = 0 | passes(2, 1) = NO");
        Script.run("H of 98901", "offset(0) | begins(0, 98901) | passes(99, 999) = 0 | H = 0");
        Script.run("H of 98900", "offset(0) | begins(0, 98900) | passes(99, 999) = NO | H = 98900");
    }

    private static void noIfLowIsAboveCapacity() {
        Script.run("L would be D - 1", EXACT, "holds(990, 995) | passes(-9, 1) = 1 | L = 999 | H = 1000");
        Script.run("L would be D", EXACT, "holds(990, 995) | passes(-10, 1) = 0 | L = 1000 | H = 1000 | NOS = 0");
        Script.run("L would be D + 1", EXACT, "holds(990, 995) | passes(-11, 1) = NO | L = 990 | H = 995 | NOS = 1");
        Script.run("L is D and charged", EXACT, "holds(1000, 1000) | passes(-1, 1) = NO | passes(0, 1) = 0 | L = 1000");
        Script.run("L with OFFSET: to D", "holds(982, 982) | passes(-10, 2) = 0 | L = 1000");
        Script.run("L with OFFSET: to D + 1", "holds(983, 983) | passes(-10, 2) = NO | L = 983");
        Script.run("L above C is fine", "holds(500, 600) | passes(-2, 1) = 102 | L = 501");
        Script.run("L, D is 0", "begins(0, 0) | passes(-1, 999) = 0 | passes(-2, 1) = NO | L = 0");
        Script.run("L to 98901", "offset(0) | begins(0, 98901) | holds(0, 0) | passes(-99, 999) = 0 | L = 98901");
        Script.run("L to 98901, D one less", "offset(0) | begins(0, 98900) | holds(0, 0) | passes(-99, 999) = NO | L = 0");
    }

    /** That L is above H comes with H below 0 or L above D alone, as L - n (i + o) is never above H - n (i - o). */
    private static void noLeavesAllAsItWas() {
        String[] refusals = {"passes(99, 999) = NO", "passes(-99, 999) = NO"};
        for (String refusal : refusals) {
            String ready = "rests(3700) | loads(7, 3000) | passes(5, 9) | passes(-4, 3) | clings(11)";
            String all = "L = 300 | H = 689 | DRAWN = 33 | STEPS = 12 | SHOWN = 91 | STATES = 5 | RESTS = 1 | a = 690 | b = 710";
            GaugeBounds x = Script.run("ahead of " + refusal, ready, all);
            GaugeBounds y = Script.run(refusal, ready, refusal, all, "NOS = 1 | BADS = 0 | FULLS = 0");
            Check.same(refusal, Check.state(y), Check.state(x));
            x.back();
            y.back();
            Check.same(refusal + ", one back", Check.state(y), Check.state(x));
        }
    }

    private static void aboveZeroIsDrawn() {
        Script.run("i 1 is drawn", EXACT, "holds(500, 500) | passes(1, 1) = 0 | L = 499 | H = 499 | DRAWN = 1 | SHOWN = 99");
        Script.run("i 0 is neither", EXACT, "holds(500, 500) | passes(0, 1) = 0 | L = 500 | H = 500 | DRAWN = 0",
            "SHOWN = 100");
        Script.run("i -1 is charged", EXACT, "holds(500, 500) | passes(-1, 1) = 0 | L = 501 | H = 501 | DRAWN = -1",
            "SHOWN = 100");
    }

    private static void drawnAndStepsSinceTheRest() {
        Script.run("n i more, n more", "begins(0, 99999) | passes(99, 999) | DRAWN = 98901 | STEPS = 999",
            "passes(-99, 999) | DRAWN = 0 | STEPS = 1998 | passes(-99, 1) | DRAWN = -99 | STEPS = 1999",
            "passes(0, 999) | DRAWN = -99 | STEPS = 2998");
        Script.run("a REST ends them, one that is NO does not", "passes(3, 4) | rests(2989) = NO | DRAWN = 12 | STEPS = 4",
            "rests(2990) | DRAWN = 0 | STEPS = 0 | passes(-3, 4) | DRAWN = -12 | STEPS = 4");
    }

    private static void shownDrawn() {
        // behind n steps of 1 t is (500 - n) / 10, cut
        Script.run("n less is t + 1", EXACT, "holds(500, 500) | passes(1, 55) | MIDDLE = 445 | SHOWN = 45");
        Script.run("n less is t", EXACT, "holds(500, 500) | passes(1, 56) | MIDDLE = 444 | SHOWN = 44");
        Script.run("n less is t - 1", EXACT, "holds(500, 500) | passes(1, 57) | MIDDLE = 443 | SHOWN = 44");
        Script.run("n less by one step", EXACT, "passes(99, 1) | SHOWN = 99");
        Script.run("t is cut", EXACT, "holds(500, 500) | passes(1, 91) | MIDDLE = 409 | SHOWN = 40");
    }

    private static void shownDrawnNeverMore() {
        String at44 = EXACT + " | holds(500, 500) | passes(1, 56) | SHOWN = 44";
        Script.run("t is one below", at44, "holds(440, 440) | passes(1, 1) | MIDDLE = 439 | SHOWN = 43");
        Script.run("t is the same", at44, "holds(450, 450) | passes(1, 1) | MIDDLE = 449 | SHOWN = 44");
        Script.run("t is one above", at44, "holds(451, 451) | passes(1, 1) | MIDDLE = 450 | SHOWN = 44");
        Script.run("t is far above", at44, "holds(1000, 1000) | passes(1, 1) | MIDDLE = 999 | SHOWN = 44");
    }

    private static final String AT_10 = EXACT + " | holds(1, 1) | passes(1, 1) | SHOWN = 0 | holds(100, 100)"
        + " | passes(-1, 10) | MIDDLE = 110 | SHOWN = 10";

    private static void shownCharged() {
        Script.run("n more is t - 1", AT_10, "holds(119, 119) | passes(-1, 1) | MIDDLE = 120 | SHOWN = 11");
        Script.run("n more is t", AT_10, "holds(109, 109) | passes(-1, 1) | MIDDLE = 110 | SHOWN = 11");
        Script.run("n more is t + 1", AT_10, "holds(117, 117) | passes(-1, 2) | MIDDLE = 119 | SHOWN = 11");
        Script.run("n more by one step", AT_10, "passes(-99, 1) | SHOWN = 11");
    }

    private static void shownChargedNeverLess() {
        Script.run("t is one above", AT_10, "holds(109, 109) | passes(-1, 1) | MIDDLE = 110 | SHOWN = 11");
        Script.run("t is the same", AT_10, "holds(108, 108) | passes(-1, 1) | MIDDLE = 109 | SHOWN = 10");
        Script.run("t is one below", AT_10, "holds(98, 98) | passes(-1, 1) | MIDDLE = 99 | SHOWN = 10");
        Script.run("t is far below", AT_10, "holds(0, 0) | passes(-1, 1) | MIDDLE = 1 | SHOWN = 10");
    }

    private static void shownFromZeroToHundred() {
        // by i 1 and OFFSET 1 H stays, so that n may be more than SHOWN
        String low = "begins(1000, 1000) | holds(5, 5)";
        Script.run("99 less", low, "passes(1, 99) = 5 | MIDDLE = 2 | SHOWN = 1");
        Script.run("100 less", low, "passes(1, 100) = 5 | SHOWN = 0");
        Script.run("101 less", low, "passes(1, 101) = 5 | SHOWN = 0");
        Script.run("999 less", low, "passes(1, 999) = 5 | SHOWN = 0 | passes(1, 999) = 5 | SHOWN = 0");
        String high = EXACT + " | passes(1, 1) | SHOWN = 99";
        Script.run("t 99", high, "holds(998, 998) | passes(-1, 1) | MIDDLE = 999 | SHOWN = 99");
        Script.run("1 more", high, "holds(999, 999) | passes(-1, 1) | MIDDLE = 1000 | SHOWN = 100");
        Script.run("2 more", high, "holds(998, 998) | passes(-1, 2) | MIDDLE = 1000 | SHOWN = 100");
        Script.run("999 more", "begins(0, 1000) | passes(1, 1) | SHOWN = 100 | passes(-1, 999) = 1000 | SHOWN = 100");
    }

    private static void shownByReadingZero() {
        Script.run("i 0, t below", EXACT, "holds(0, 1) | passes(0, 999) | SHOWN = 100");
        Script.run("i 0, t above", AT_10, "holds(1000, 1000) | passes(0, 999) | SHOWN = 10");
    }

    private static void shownIsZeroIfHighIs() {
        Script.run("a PASSING, drawn: H 1", EXACT, "holds(0, 2) | passes(1, 1) = 1 | H = 1 | SHOWN = 99");
        Script.run("a PASSING, drawn: H 0", EXACT, "holds(0, 1) | passes(1, 1) = 0 | H = 0 | SHOWN = 0");
        Script.run("a PASSING, i 0: H 1", EXACT, "holds(0, 1) | passes(0, 1) = 1 | SHOWN = 100");
        Script.run("a PASSING, i 0: H 0", EXACT, "holds(0, 0) | passes(0, 1) = 0 | SHOWN = 0");
        Script.run("a PASSING, charged: H 1", "begins(0, 1) | holds(0, 0) | passes(-1, 1) = 1 | H = 1 | SHOWN = 100");
        Script.run("a PASSING, charged: H 0", "begins(0, 0) | passes(-1, 1) = 0 | H = 0 | SHOWN = 0");
        Script.run("a PASSING that is NO", EXACT, "holds(0, 0) | passes(1, 1) = NO | SHOWN = 100");
        Script.run("a REST: H 1", "clings(0) | rests(3001) = 1 | H = 1 | SHOWN = 100");
        Script.run("a REST: H 0", "clings(0) | rests(3000) = 0 | H = 0 | SHOWN = 0");
        Script.run("a REST, H 0 ahead of it", "holds(0, 0) | rests(3000) = 0 | SHOWN = 0");
        Script.run("a REST that is a CLASH, H 0 ahead of it", "clings(0) | holds(0, 0) | rests(3500) = 0 | CLASHES = 1",
            "SHOWN = 0");
        Script.run("a REST that is NO", "holds(0, 0) | rests(2989) = NO | SHOWN = 100");
        Script.run("a REST, D 0", "begins(0, 0) | rests(4000) = 0 | SHOWN = 0");
        Script.run("as ORDERS", "offset(0) | does(p10 100;) = 1 | SHOWN = 0 | back() | does(g0; r3000;) = 2 | SHOWN = 0");
    }

    private static void shownStaysByOtherCalls() {
        Script.run("begins: 100", "begins(0, 0) | H = 0 | SHOWN = 100 | passes(0, 1) | SHOWN = 0 | begins(0, 0)",
            "SHOWN = 100");
        Script.run("holds, though H is 0", "holds(0, 0) | H = 0 | MIDDLE = 0 | SHOWN = 100");
        Script.run("loads, though H is 0", "holds(0, 0) | loads(1, 3000) = 0 | SHOWN = 100");
        Script.run("offset, clings, curve", "holds(0, 0) | offset(0) | clings(0) | curve(0, 0) | SHOWN = 100");
        Script.run("a REST, H above 0", EXACT, "rests(3100) | MIDDLE = 100 | SHOWN = 100");
    }
}
