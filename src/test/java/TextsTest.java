/** Promises 18 (type), 19 (clear) and 20 (does). */
public final class TextsTest {
    public static void main(String[] args) {
        typeAndClear();
        faults();
        ordersThatStand();
        everyOrderIsAsItsCall();
        nothingIsDone();
        ordersLeanOnThoseAhead();
        oneStateForAll();
        wholeText();
        Check.end("TextsTest");
    }

    private static void typeAndClear() {
        GaugeBounds x = new GaugeBounds();
        Check.due("type(0)", x.type(0), 1);
        Check.due("type(127)", x.type(127), 2);
        Check.due("type(128)", x.type(128), GaugeBounds.BAD);
        Check.due("type(-1)", x.type(-1), GaugeBounds.BAD);
        Check.due("clear()", x.clear(), 2);
        Check.due("clear()", x.clear(), 0);
        for (int n = 1; n <= 120; n++) {
            Check.due("type(32)", x.type(32), n);
        }
        Check.due("type(32) then", x.type(32), GaugeBounds.FULL);
        Check.due("type(128) then", x.type(128), GaugeBounds.BAD);
        Check.due("refused(0)", x.refused(0), 3);
        Check.due("refused(2)", x.refused(2), 1);
        Check.due("refused(3)", x.refused(3), 120);
        Check.due("refused(4)", x.refused(4), 0);
        Check.due("does()", x.does(), -130);
        Check.due("clear()", x.clear(), 120);
        Check.due("type('o')", x.type('o'), 1);
    }

    private static void faults() {
        Object[][] due = {
            {"", 0}, {" ", 1}, {"   ", 3},
            {"x", 0}, {" x", 1}, {"P5 3;", 0}, {";", 0}, {"5", 0}, {"-", 0}, {"\t", 0}, {"\u0000", 0}, {"\u007f", 0},
            {"p", 1}, {"p ", 2}, {"p-", 2}, {"p5", 2}, {"p5 ", 3}, {"p-5 3", 5}, {"p-5 3 ", 6},
            {"r3500;r", 7}, {"r3500; r 1", 10}, {"r3500", 5}, {"r3500  ", 7}, {"c1", 2}, {"l1 1", 4},
            {"p5-3;", 2}, {"p5 -3;", 3}, {"l5 -3;", 3}, {"r-1;", 1}, {"o-1;", 1}, {"g-1;", 1}, {"c-1 5;", 1}, {"c1 -5;", 3},
            {"p--5 3;", 2}, {"p- 5 3;", 2}, {"l- 5 3;", 2}, {"p-;", 2}, {"p-p", 2},
            {"r12345;", 5}, {"p12345 3;", 5}, {"p-12345 3;", 6}, {"p1 12345;", 7}, {"o00001;", 5}, {"c12345", 5},
            {"r1 2;", 3}, {"r1  2;", 4}, {"o1 2;", 3}, {"g1 2;", 3}, {"p1 2 3;", 5}, {"c1 2 3;", 5}, {"l1 2-", 4},
            {"r;", 1}, {"r ;", 2}, {"p;", 1}, {"p5;", 2}, {"p 5 ;", 4}, {"c5;", 2}, {"l5;", 2}, {"o;", 1}, {"g;", 1},
            {"r3500;;", 6}, {"r3500; ;", 7}, {"r3500;x", 6}, {"r3500:", 5}, {"r3500/", 5}, {"rr", 1}, {"pr", 1},
            {"r3500\t;", 5}, {"p5,3;", 2}, {"p5 r3500;", 3}, {"cr3500;", 1}, {"r3500 r3500;", 6}, {"p+5 3;", 1}, {"r9999;x", 6}, {"o10;o10", 7},
        };
        long before = new GaugeBounds().digest();
        for (Object[] d : due) {
            GaugeBounds x = new GaugeBounds();
            Check.due("does() of '" + d[0] + "'", Check.does(x, (String) d[0]), -10 - (Integer) d[1]);
            x.clear();
            Check.due("digest(): nothing is done, nothing counts", x.digest(), before);
        }
    }

    private static void ordersThatStand() {
        Object[][] due = {
            {"p5 3;", 1}, {"p-5 3;", 1}, {"p -5 3;", 1}, {"  p   5   3  ;  ", 1}, {"p-0 3;", 1}, {"p0000 0001;", 1},
            {"r3500;", 1}, {"r 3500 ;r3500;", 2}, {"o0009;", 1}, {"g500;", 1}, {"c10 9999;", 1}, {"l-99 9999;", 1},
            {"l1 0;", 1}, {"l 1 0 ; l1 0 ;", 2}, {"o2;g20;c3 3350;p1 1;r3600;l1 1;", 6},
            {"p100 1;", -1000}, {"p-100 1;", -1000}, {"p1 0;", -1000}, {"p1 1000;", -1000}, {"p9999 9999;", -1000},
            {"r9999;", -1000}, {"r0;", -1000}, {"l0 1;", -1000}, {"l-0 1;", -1000}, {"l100 1;", -1000},
            {"o10;", -1000}, {"g501;", -1000}, {"c11 5;", -1000}, {"c0 3100;", -1000}, {"c5 3600;", -1000},
            {"p99 999;", -1000}, {"o1;o10;", -1001}, {"o1;o1;o1;r0;o10;", -1003},
        };
        for (Object[] d : due) {
            GaugeBounds x = new GaugeBounds();
            Check.due("does() of '" + d[0] + "'", Check.does(x, (String) d[0]), (Integer) d[1]);
            Check.due("refused(3): THE TEXT stays", x.refused(3), ((String) d[0]).length());
            Check.due("refused(4) behind '" + d[0] + "'", x.refused(4), (Integer) d[1] > 0 ? 1 : 0);
            Check.due("refused(0) behind '" + d[0] + "'", x.refused(0), 0);
            Check.due("refused(1) behind '" + d[0] + "'", x.refused(1), 0);
        }
    }

    private static void everyOrderIsAsItsCall() {
        GaugeBounds x = new GaugeBounds();
        GaugeBounds y = new GaugeBounds();
        Check.due("does()", Check.does(x, "p 10 20;r 3700;l-4 3390;l20 3390;o 3;g 30;c 10 4321;p-2 0007;"), 8);
        x.clear();
        y.passes(10, 20);
        y.rests(3700);
        y.loads(-4, 3390);
        y.loads(20, 3390);
        y.offset(3);
        y.clings(30);
        y.curve(10, 4321);
        y.passes(-2, 7);
        Check.same("by orders and by calls", Check.state(x), Check.state(y));
        Check.due("refused(4)", x.refused(4), 1);
    }

    private static void nothingIsDone() {
        GaugeBounds x = new GaugeBounds();
        x.passes(3, 4);
        x.rests(3700);
        x.loads(5, 3300);
        Check.type(x, "o0;g3;c5 3555;l5 3300;l-5 3300;p9 9;r3650;p99 99;o2;");
        long before = x.digest();
        Check.due("does()", x.does(), -1007);
        Check.due("digest()", x.digest(), before);
        Check.due("does() again", x.does(), -1007);
        Check.due("back()", x.back(), 2);
        Check.due("bands()", x.bands(), 0);
    }

    private static void ordersLeanOnThoseAhead() {
        GaugeBounds x = new GaugeBounds();
        Check.due("a later point is allowed by those ahead", Check.does(x, "c2 3290;c1 3250;c0 3150;"), 3);
        Check.due("empty by the one ahead", Check.does(x, "o0;p10 100;p1 1;"), -1002);
        Check.due("OFFSET", x.setting(0), 1);
        Check.due("OFFSET is used by the next one", Check.does(x, "o0;p10 100;"), 2);
        Check.due("H", x.told(1), 0);
        Check.due("SHOWN", x.told(5), 0);
    }

    private static void oneStateForAll() {
        GaugeBounds x = new GaugeBounds();
        x.offset(5);
        Check.due("does()", Check.does(x, "o1;o2;o3;o4;"), 4);
        Check.due("refused(4)", x.refused(4), 2);
        Check.due("does() once more", x.does(), 4);
        Check.due("refused(4)", x.refused(4), 3);
        x.offset(6);
        Check.due("back()", x.back(), 3);
        Check.due("back()", x.back(), 2);
        Check.due("back()", x.back(), 1);
        Check.due("OFFSET", x.setting(0), 5);
        Check.due("THE TEXT is not of a STATE", x.refused(3), 12);
    }

    private static void wholeText() {
        Check.due("forty orders", Check.does(new GaugeBounds(), "o1;".repeat(40)), 40);
        Check.due("the last one ends all", Check.does(new GaugeBounds(), "o1;".repeat(39).concat("r0;")), -1039);
        Check.due("no end", Check.does(new GaugeBounds(), "o1;".repeat(39).concat("o1 ")), -130);
        Check.due("a fault at the last byte", Check.does(new GaugeBounds(), "o1;".repeat(39).concat("o1x")), -129);
        Check.due("blanks ahead", Check.does(new GaugeBounds(), " ".repeat(117).concat("o1;")), 1);
        Check.due("blanks behind", Check.does(new GaugeBounds(), "o1;".concat(" ".repeat(117))), 1);
    }
}
