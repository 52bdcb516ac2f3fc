/** A REST's edges (promises 8, 12): a or b none, their places, what is learnt, CLASH, D at most. */
public final class EdgeRestsTest {
    /** OFFSET 0, CLING 0: what is drawn and where it rests is known to the last. */
    private static final String EXACT = "offset(0) | clings(0)";

    public static void main(String[] args) {
        noIfOneIsNone();
        inverseTellsTheOther();
        leastAndGreatestPlace();
        theyChangePlaces();
        everyVoltage();
        nothingIsLearntWithoutOneAhead();
        leastDrawnAboveZero();
        mostDrawnAboveZero();
        spanOfTheLeastCapacity();
        spanOfTheMostCapacity();
        cutAndUp();
        leastCapacityIfThatIsMore();
        mostCapacityIfThatIsLess();
        clashOfCapacity();
        chargeCutAndUp();
        chargeOnlyNarrows();
        clashOfCharge();
        bothClash();
        capacityAtMost();
        theOneAheadOfTheNext();
        noLeavesAllAsItWas();
        Check.end("EdgeRestsTest");
    }

    private static void noIfOneIsNone() {
        Script.run("CLING 10", "rests(2989) = NO | rests(4011) = NO | RESTS = 0 | NOS = 2 | STATES = 0",
            "rests(4010) = 500 | a = 1000 | b = 1000 | begins(500, 1000) | rests(2990) = 0 | a = 0 | b = 0 | NOS = 2");
        Script.run("CLING 0", "clings(0) | rests(2999) = NO | rests(4001) = NO",
            "rests(4000) = 500 | a = 1000 | b = 1000 | begins(500, 1000) | rests(3000) = 0 | a = 0 | b = 0");
        Script.run("CLING 500", "clings(500) | rests(2499) = NO | rests(4501) = NO",
            "rests(4500) = 500 | a = 1000 | b = 1000 | rests(2500) = 500 | a = 0 | b = 0");
        Script.run("0 and 9999", "clings(0) | curve(0, 1) | curve(10, 9998) | rests(0) = NO | rests(9999) = NO",
            "clings(1) | rests(9999) = 500 | rests(0) = 500 | CLASHES = 1");
    }

    private static void inverseTellsTheOther() {
        Script.run("CLING 10", "inverse(2990, 1) = 0 | inverse(2989, 1) = NONE | inverse(2989, 0) = 0",
            "inverse(0, 0) = 0 | inverse(0, 1) = NONE",
            "inverse(4010, 0) = 1000 | inverse(4011, 0) = NONE | inverse(4011, 1) = 1000 | inverse(9999, 0) = NONE",
            "inverse(9999, 1) = 1000",
            "BADS = 0 | NOS = 0 | STATES = 0 | RESTS = 0 | a = NONE | b = NONE");
        Script.run("CLING 0", "clings(0) | inverse(3000, 1) = 0 | inverse(2999, 1) = NONE | inverse(2999, 0) = 0",
            "inverse(4000, 0) = 1000 | inverse(4001, 0) = NONE | inverse(4001, 1) = 1000");
        Script.run("CLING 500", "clings(500) | inverse(2500, 1) = 0 | inverse(2499, 1) = NONE | inverse(2499, 0) = 0",
            "inverse(4500, 0) = 1000 | inverse(4501, 0) = NONE | inverse(4501, 1) = 1000");
    }

    private static void leastAndGreatestPlace() {
        Script.run("V(p) + g is v, V(p) - g is v", "inverse(3500, 0) = 490 | inverse(3500, 1) = 510",
            "clings(0) | inverse(3500, 0) = 500 | inverse(3500, 1) = 500 | clings(1) | inverse(3500, 0) = 499",
            "inverse(3500, 1) = 501");
        // from 800 to 899 all places have 3800
        String flat = "clings(0) | curve(9, 3801)";
        Script.run("many places with one voltage", flat, "inverse(3799, 0) = 799 | inverse(3799, 1) = 799",
            "inverse(3800, 0) = 800 | inverse(3800, 1) = 899 | inverse(3801, 0) = 900 | inverse(3801, 1) = 900");
        Script.run("the first stretch and the last", "clings(0) | inverse(3001, 0) = 1 | inverse(3001, 1) = 1",
            "inverse(3099, 1) = 99 | inverse(3100, 0) = 100 | inverse(3101, 0) = 101 | inverse(3999, 0) = 999",
            "inverse(3999, 1) = 999");
        Script.run("all places", "clings(500) | inverse(3500, 0) = 0 | inverse(3500, 1) = 1000",
            "inverse(3501, 0) = 1 | inverse(3501, 1) = 1000 | inverse(3499, 0) = 0 | inverse(3499, 1) = 999");
    }

    private static void theyChangePlaces() {
        // V(900) is 3900, V(901) 3960: no place between
        String steep = "curve(10, 9999) = 4000 | volts(900) = 3900 | volts(901) = 3960";
        Script.run("on a place", steep, "clings(0) | inverse(3900, 0) = 900 | inverse(3900, 1) = 900",
            "inverse(3960, 0) = 901 | inverse(3960, 1) = 901");
        Script.run("between two places", steep, "clings(0) | inverse(3901, 0) = 900 | inverse(3901, 1) = 901",
            "inverse(3959, 0) = 900 | inverse(3959, 1) = 901 | rests(3901) = 451 | a = 900 | b = 901 | L = 450 | H = 901");
        Script.run("CLING just reaches both", steep, "clings(30) | inverse(3930, 0) = 900 | inverse(3930, 1) = 901");
        Script.run("CLING just does not", steep, "clings(29) | inverse(3930, 0) = 900 | inverse(3930, 1) = 901",
            "rests(3930) = 451 | a = 900 | b = 901");
        Script.run("CLING reaches one", steep, "clings(29) | inverse(3929, 0) = 900 | inverse(3929, 1) = 900",
            "inverse(3931, 0) = 901 | inverse(3931, 1) = 901");
    }

    /** By every voltage there is, a and b are those that a look at every place finds. */
    private static void everyVoltage() {
        everyVoltageOf("clings(10)");
        everyVoltageOf("clings(0)");
        everyVoltageOf("clings(500)");
        everyVoltageOf("clings(1) | curve(9, 3801) | curve(10, 9999) | curve(0, 0)");
    }

    private static void everyVoltageOf(String settings) {
        GaugeBounds x = Script.run(settings, settings);
        int g = x.setting(1);
        int[] points = new int[11];
        for (int k = 0; k <= 10; k++) {
            points[k] = x.setting(k + 2);
        }
        int[] volts = new int[1001];
        for (int p = 0; p <= 1000; p++) {
            int k = Math.min(p / 100, 9);
            volts[p] = points[k] + (points[k + 1] - points[k]) * (p - 100 * k) / 100;
        }
        for (int v = 0; v <= 9999; v++) {
            if (v % 200 == 0) {
                // an object answers 512 calls
                x = Script.run(settings, settings);
            }
            int[] due = placesOf(volts, g, v);
            Check.due(settings + ": inverse(" + v + ", 0)", x.inverse(v, 0), due[0]);
            Check.due(settings + ": inverse(" + v + ", 1)", x.inverse(v, 1), due[1]);
        }
    }

    private static int[] placesOf(int[] volts, int g, int v) {
        int a = GaugeBounds.NONE;
        int b = GaugeBounds.NONE;
        for (int p = 0; p <= 1000; p++) {
            if (a == GaugeBounds.NONE && volts[p] + g >= v) {
                a = p;
            }
            if (volts[p] - g <= v) {
                b = p;
            }
        }
        boolean turned = a != GaugeBounds.NONE && b != GaugeBounds.NONE && a > b;
        return turned ? new int[] {b, a} : new int[] {a, b};
    }

    private static void nothingIsLearntWithoutOneAhead() {
        Script.run("the first REST", EXACT, "begins(0, 5000) | passes(10, 100) | rests(3000) | C = 0 | D = 5000",
            "RESTS = 1");
        Script.run("behind begins", EXACT, "begins(0, 5000) | rests(4000) | begins(0, 5000) | passes(10, 100)",
            "rests(3000) | C = 0 | D = 5000 | RESTS = 1");
        Script.run("behind back", EXACT, "begins(0, 5000) | rests(4000) | back() | passes(10, 100) | rests(3000) | C = 0",
            "D = 5000 | RESTS = 1");
        Script.run("the one ahead was NO", EXACT, "begins(0, 5000) | rests(4001) = NO | passes(10, 100) | rests(3000)",
            "C = 0 | D = 5000 | RESTS = 1");
        Script.run("the second REST", EXACT, "begins(0, 5000) | rests(4000) | passes(10, 100) | rests(3000) | C = 1000",
            "D = 1000 | RESTS = 2");
    }

    /** CLING 0, OFFSET 1, CAPACITY 0 to 5000: what is learnt of n steps by i, where it falls by one place. */
    private static void fellByOne(String sentence, String passing, String then) {
        Script.run(sentence, "clings(0) | begins(0, 5000) | rests(3700)", passing, "rests(3699)", then);
    }

    private static void leastDrawnAboveZero() {
        fellByOne("e is 1, f 3", "passes(2, 1)", "C = 1000 | D = 3000 | CLASHES = 0");
        fellByOne("e is 0, f 2", "passes(1, 1)", "C = 0 | D = 2000 | CLASHES = 0");
        fellByOne("e is -1, f 1", "passes(0, 1)", "C = 0 | D = 1000 | CLASHES = 0");
        fellByOne("OFFSET as it is at the REST: e 0, f 4", "passes(2, 1) | offset(2)", "C = 0 | D = 4000 | CLASHES = 0");
        fellByOne("OFFSET as it is at the REST: e 2, f 2", "passes(2, 1) | offset(0)", "C = 2000 | D = 2000 | CLASHES = 0");
    }

    private static void mostDrawnAboveZero() {
        fellByOne("f is 1", "passes(0, 1)", "C = 0 | D = 1000 | CLASHES = 0");
        fellByOne("f is 0", "passes(-1, 1)", "C = 0 | D = 5000 | CLASHES = 0");
        fellByOne("f is -1", "passes(-2, 1)", "C = 0 | D = 5000 | CLASHES = 0");
        Script.run("nothing passed: e and f are 0", "clings(0) | begins(0, 5000) | rests(3700) | rests(3699) | C = 0",
            "D = 5000");
    }

    /** OFFSET 0, CLING 1, so that the first REST's A is 699, its B 701; one is drawn. */
    private static void restedThen(String sentence, String then) {
        Script.run(sentence, "offset(0) | clings(1) | begins(0, 5000) | rests(3700) | a = 699 | b = 701",
            "passes(1, 1)", then);
    }

    private static void spanOfTheLeastCapacity() {
        restedThen("B - a is 1", "rests(3701) | a = 700 | C = 1000 | D = 5000 | CLASHES = 0");
        restedThen("B - a is 0", "rests(3702) | a = 701 | C = 0 | D = 5000 | CLASHES = 0");
        restedThen("B - a is -1", "rests(3703) | a = 702 | C = 0 | D = 5000 | CLASHES = 0");
    }

    private static void spanOfTheMostCapacity() {
        restedThen("A - b is 1", "rests(3697) | b = 698 | C = 200 | D = 1000 | CLASHES = 0");
        restedThen("A - b is 0", "rests(3698) | b = 699 | C = 250 | D = 5000 | CLASHES = 0");
        restedThen("A - b is -1", "rests(3699) | b = 700 | C = 333 | D = 5000 | CLASHES = 0");
    }

    private static void cutAndUp() {
        String ready = EXACT + " | begins(0, 5000) | rests(3800) | ";
        Script.run("1000 by 4", ready + "passes(1, 1) | rests(3796) | C = 250 | D = 250");
        Script.run("1000 by 3: a third", ready + "passes(1, 1) | rests(3797) | C = 333 | D = 334");
        Script.run("2000 by 3: two thirds", ready + "passes(2, 1) | rests(3797) | C = 666 | D = 667");
        Script.run("1000 by 7", ready + "passes(1, 1) | rests(3793) | C = 142 | D = 143");
        Script.run("1000 by 800", ready + "passes(1, 1) | rests(3000) | C = 1 | D = 2");
    }

    private static void leastCapacityIfThatIsMore() {
        // 1000 is learnt of C, nothing of D
        String then = "rests(3700) | passes(1, 1) | rests(3701)";
        String ready = "offset(0) | clings(1) | ";
        Script.run("C is 999", ready + "begins(999, 5000)", then, "C = 1000 | D = 5000 | CLASHES = 0");
        Script.run("C is 1000", ready + "begins(1000, 5000)", then, "C = 1000 | D = 5000 | CLASHES = 0");
        Script.run("C is 1001", ready + "begins(1001, 5000)", then, "C = 1001 | D = 5000 | CLASHES = 0");
    }

    private static void mostCapacityIfThatIsLess() {
        // 1000 is learnt of D, nothing of C
        String then = "rests(3700) | passes(0, 1) | rests(3699)";
        Script.run("D is 1001", "clings(0) | begins(0, 1001)", then, "C = 0 | D = 1000 | CLASHES = 0");
        Script.run("D is 1000", "clings(0) | begins(0, 1000)", then, "C = 0 | D = 1000 | CLASHES = 0");
        Script.run("D is 999", "clings(0) | begins(0, 999)", then, "C = 0 | D = 999 | CLASHES = 0");
    }

    private static void clashOfCapacity() {
        String moreOfC = "rests(3700) | passes(1, 1) | rests(3701)";
        String ready = "offset(0) | clings(1) | ";
        Script.run("C comes to D", ready + "begins(0, 1000)", moreOfC, "C = 1000 | D = 1000 | CLASHES = 0");
        Script.run("C comes above D", ready + "begins(0, 999)", moreOfC, "C = 0 | D = 999 | CLASHES = 1 | RESTS = 2",
            "a = 700 | STEPS = 0");
        String lessOfD = "rests(3700) | passes(0, 1) | rests(3699)";
        Script.run("D comes to C", "clings(0) | begins(1000, 5000)", lessOfD, "C = 1000 | D = 1000 | CLASHES = 0");
        Script.run("D comes below C", "clings(0) | begins(1001, 5000)", lessOfD, "C = 1001 | D = 5000 | CLASHES = 1",
            "RESTS = 2 | a = 699 | STEPS = 0");
        Script.run("more than 99999 is learnt", EXACT, "begins(0, 99999) | rests(3700) | passes(99, 2) | rests(3699)",
            "C = 0 | D = 99999 | CLASHES = 1");
        Script.run("99000 is learnt", EXACT, "begins(0, 99999) | rests(3700) | passes(99, 1) | rests(3699) | C = 99000",
            "D = 99000 | CLASHES = 0");
    }

    private static void chargeCutAndUp() {
        Script.run("a C / 1000 is 1", "clings(0) | begins(1000, 5000) | rests(3001) = 4 | L = 1 | H = 5");
        Script.run("a C / 1000 is less than 1", "clings(0) | begins(999, 5000) | rests(3001) = 5 | L = 0 | H = 5");
        Script.run("a C / 1000 is less than 2", "clings(0) | begins(1999, 5000) | rests(3001) = 4 | L = 1 | H = 5");
        Script.run("b D / 1000 is 1", "clings(0) | begins(0, 1000) | rests(3001) = 1 | H = 1");
        Script.run("b D / 1000 is more than 1", "clings(0) | begins(0, 1001) | rests(3001) = 2 | H = 2");
        Script.run("b D / 1000 is less than 1", "clings(0) | begins(0, 999) | rests(3001) = 1 | H = 1");
        Script.run("a and b are 0", "clings(0) | begins(99999, 99999) | rests(3000) = 0 | L = 0 | H = 0");
        Script.run("a and b are 1000", "clings(0) | begins(99999, 99999) | rests(4000) = 0 | L = 99999 | H = 99999");
    }

    private static void chargeOnlyNarrows() {
        String ready = "clings(0) | begins(990, 1010) | ";
        // a and b are 500: 495 and 505
        Script.run("both are more narrow", ready + "holds(494, 506) | rests(3500) = 10 | L = 495 | H = 505");
        Script.run("both are the same", ready + "holds(495, 505) | rests(3500) = 10 | L = 495 | H = 505");
        Script.run("both are wider", ready + "holds(496, 504) | rests(3500) = 8 | L = 496 | H = 504");
        Script.run("L alone", ready + "holds(494, 504) | rests(3500) = 9 | L = 495 | H = 504");
        Script.run("H alone", ready + "holds(496, 506) | rests(3500) = 9 | L = 496 | H = 505");
    }

    private static void clashOfCharge() {
        String ready = "clings(0) | begins(1000, 1000) | ";
        Script.run("H is L", ready + "holds(500, 600) | rests(3500) = 0 | L = 500 | H = 500 | CLASHES = 0");
        Script.run("L is above H by 1", ready + "holds(501, 600) | rests(3500) = 99 | L = 501 | H = 600 | CLASHES = 1");
        Script.run("L comes to H", ready + "holds(400, 500) | rests(3500) = 0 | L = 500 | H = 500 | CLASHES = 0");
        Script.run("L comes above H by 1", ready + "holds(400, 499) | rests(3500) = 99 | L = 400 | H = 499 | CLASHES = 1");
        Script.run("a CLASH is a REST all the same", ready + "passes(1, 1) | holds(501, 600) | rests(3500) = 99",
            "RESTS = 1 | a = 500 | b = 500 | DRAWN = 0 | STEPS = 0 | STATES = 5 | NOS = 0");
    }

    private static void bothClash() {
        Script.run("CAPACITY and CHARGE: two CLASHES", EXACT, "begins(600, 600) | rests(3500) = 0 | passes(10, 10) = 0",
            "L = 200",
            "rests(3350) = 0 | CLASHES = 2 | C = 600 | D = 600 | L = 200 | H = 200");
        // 666 is learnt of C by 100 drawn, 600 by 90; a C / 1000 is 210
        Script.run("CAPACITY alone: one", EXACT, "begins(600, 600) | rests(3500) = 0 | passes(10, 10) = 0 | holds(210, 210)",
            "rests(3350) = 0 | CLASHES = 1 | L = 210 | H = 210");
        Script.run("CHARGE alone: one", EXACT, "begins(600, 600) | rests(3500) = 0 | passes(10, 9) = 0 | holds(211, 211)",
            "rests(3350) = 0 | CLASHES = 1 | L = 211 | H = 211");
        Script.run("neither: none", EXACT, "begins(600, 600) | rests(3500) = 0 | passes(10, 9) = 0 | L = 210",
            "rests(3350) = 0 | CLASHES = 0 | L = 210 | H = 210");
        Script.run("begins: no CLASHES", EXACT, "begins(600, 600) | holds(0, 0) | rests(3500) | CLASHES = 1",
            "begins(600, 600) | CLASHES = 0");
    }

    /** D becomes 1000, b D / 1000 is 699; L is put above it, so that CHARGE stays by a CLASH. */
    private static void capped(String sentence, String holds, String then) {
        Script.run(sentence, "clings(0) | begins(0, 5000) | rests(3700)",
            "passes(0, 1)", holds, "rests(3699)", "D = 1000", then);
    }

    private static void capacityAtMost() {
        capped("H is D", "holds(700, 1000)", "L = 700 | H = 1000 | CLASHES = 1");
        capped("H is D + 1", "holds(700, 1001)", "L = 700 | H = 1000 | CLASHES = 1");
        capped("H is D - 1", "holds(700, 999)", "L = 700 | H = 999 | CLASHES = 1");
        capped("L is D", "holds(1000, 5000)", "L = 1000 | H = 1000 | CLASHES = 1");
        capped("L is D + 1", "holds(1001, 5000)", "L = 1000 | H = 1000 | CLASHES = 1");
        capped("L is D - 1", "holds(999, 5000)", "L = 999 | H = 1000 | CLASHES = 1");
        capped("no CLASH", "holds(699, 5000)", "L = 699 | H = 699 | CLASHES = 0");
        Script.run("H less L then", "clings(0) | begins(0, 5000) | rests(3700) | passes(0, 1) | holds(999, 5000)",
            "rests(3699) = 1");
    }

    private static void theOneAheadOfTheNext() {
        Script.run("the last REST counts, not the first", EXACT, "begins(0, 5000) | rests(4000) | passes(1, 1)",
            "rests(3996)",
            "C = 250 | D = 250 | passes(1, 1) | rests(3992) | C = 250 | D = 250 | CLASHES = 0 | RESTS = 3 | a = 992",
            "b = 992");
        Script.run("a CLASH is the REST ahead, too", EXACT, "begins(0, 5000) | rests(3500) | holds(5000, 5000)",
            "rests(3900) | CLASHES = 1",
            "passes(1, 1) | rests(3896) | C = 250 | D = 250");
    }

    private static void noLeavesAllAsItWas() {
        for (String refusal : new String[] {"rests(2989) = NO", "rests(4011) = NO"}) {
            String ready = "rests(3700) | loads(7, 3000) | passes(5, 9) | offset(2) | offset(1) | passes(3, 3)";
            GaugeBounds x = Script.run("ahead of " + refusal, ready);
            GaugeBounds y = Script.run(refusal, ready, refusal, "NOS = 1 | BADS = 0 | FULLS = 0 | STATES = 5",
            "DRAWN = 54 | RESTS = 1");
            Check.same(refusal, Check.state(y), Check.state(x));
            x.back();
            y.back();
            Check.same(refusal + ", one back", Check.state(y), Check.state(x));
        }
    }
}
