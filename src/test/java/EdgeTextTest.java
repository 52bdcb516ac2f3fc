/** THE TEXT's edges (promises 18, 19, 20): its 120 bytes, its FAULT, its end, and ORDERS that end all. */
public final class EdgeTextTest {
    private static final String FIGURES = "0123456789";
    private static final String KINDS = "prlogc";

    public static void main(String[] args) {
        room();
        bytesAhead();
        bytesOfSignedOrders();
        bytesOfPlainOrders();
        bytesOfCurveOrders();
        endsTooEarly();
        emptyOrBlanks();
        oneToFourFigures();
        blanksWhereNeeded();
        readWholeFirst();
        ordersAtTheirRanges();
        ordersThatAreNo();
        ordersEndAllByTheirNumber();
        doesCountsNothing();
        oneStateForAll();
        theTextStays();
        Check.end("EdgeTextTest");
    }

    private static void room() {
        GaugeBounds x = new GaugeBounds();
        for (int n = 1; n <= 119; n++) {
            x.type(' ');
        }
        Check.due("the 120th byte", x.type(' '), 120);
        Check.due("the 121st byte", x.type(' '), GaugeBounds.FULL);
        Check.due("the 122nd byte", x.type(0), GaugeBounds.FULL);
        Check.due("BAD comes first", x.type(128), GaugeBounds.BAD);
        Check.due("BAD comes first", x.type(-1), GaugeBounds.BAD);
        Check.due("FULL, how often", x.refused(2), 2);
        Check.due("BAD, how often", x.refused(0), 2);
        Check.due("NO, how often", x.refused(1), 0);
        Check.due("bytes", x.refused(3), 120);
        Check.due("STATES", x.refused(4), 0);
        Check.due("clear()", x.clear(), 120);
        Check.due("bytes", x.refused(3), 0);
        Check.due("clear() of none", x.clear(), 0);
        Check.due("there is room again", x.type(' '), 1);
        Check.due("FULL stays", x.refused(2), 2);
        String full = "o1;".repeat(39);
        Check.due("119 bytes", Check.does(new GaugeBounds(), full + "  "), 39);
        Check.due("120 bytes", Check.does(new GaugeBounds(), full + "o2;"), 40);
        GaugeBounds y = new GaugeBounds();
        Check.due("121 bytes, the last is lost", Check.does(y, full + "r 1;"), -130);
        Check.due("FULL", y.refused(2), 1);
    }

    /** Of all 128 bytes, those and no others can stand behind the text; a text with one of them may end too early. */
    private static void canStand(String behind, String bytes) {
        for (int c = 0; c <= 127; c++) {
            GaugeBounds x = new GaugeBounds();
            int answer = Check.does(x, behind + (char) c);
            boolean fault = answer == -10 - behind.length();
            Check.holds("byte " + c + " behind '" + behind + "'", fault == (bytes.indexOf(c) < 0));
        }
    }

    private static void bytesAhead() {
        canStand("", KINDS + " ");
        canStand(" ", KINDS + " ");
        canStand("   ", KINDS + " ");
        for (String order : new String[] {"p1 1;", "p-1 1;", "r3500;", "l1 1;", "l-1 1;", "o1;", "g1;", "c5 3500;"}) {
            canStand(order, KINDS + " ");
            canStand(order + " ", KINDS + " ");
            canStand(order + order, KINDS + " ");
        }
    }

    private static void bytesOfSignedOrders() {
        for (String kind : new String[] {"p", "l"}) {
            canStand(kind, FIGURES + "- ");
            canStand(kind + " ", FIGURES + "- ");
            canStand(kind + "-", FIGURES);
            canStand(kind + " -", FIGURES);
            for (String number : new String[] {"1", "-1", "999", "-999"}) {
                canStand(kind + number, FIGURES + " ");
                canStand(kind + number + " ", FIGURES + " ");
                canStand(kind + number + "  ", FIGURES + " ");
            }
            canStand(kind + "1234", " ");
            canStand(kind + "-1234", " ");
            canStand(kind + "0000", " ");
            canStand(kind + "1234 ", FIGURES + " ");
            canStand(kind + "1 1", FIGURES + " ;");
            canStand(kind + "1 123", FIGURES + " ;");
            canStand(kind + "1 1234", " ;");
            canStand(kind + "1 1 ", " ;");
            canStand(kind + "-1 1234  ", " ;");
        }
    }

    private static void bytesOfPlainOrders() {
        for (String kind : new String[] {"r", "o", "g"}) {
            canStand(kind, FIGURES + " ");
            canStand(kind + "  ", FIGURES + " ");
            canStand(kind + "1", FIGURES + " ;");
            canStand(kind + "123", FIGURES + " ;");
            canStand(kind + "1234", " ;");
            canStand(kind + "0000", " ;");
            canStand(kind + "1 ", " ;");
            canStand(kind + " 1234  ", " ;");
        }
    }

    private static void bytesOfCurveOrders() {
        canStand("c", FIGURES + " ");
        canStand("c ", FIGURES + " ");
        canStand("c1", FIGURES + " ");
        canStand("c123", FIGURES + " ");
        canStand("c1234", " ");
        canStand("c1 ", FIGURES + " ");
        canStand("c1234 ", FIGURES + " ");
        canStand("c1 1", FIGURES + " ;");
        canStand("c1 123", FIGURES + " ;");
        canStand("c1 1234", " ;");
        canStand("c1 1 ", " ;");
    }

    /** Whatever a text is cut to, it ends too early, but where an ORDER has just ended or blanks came behind. */
    private static void endsTooEarly() {
        String[] texts = {"p -5 3 ; ", "p5 3;", "l-1 3000;", "  r 3500 ;", "o 0009;", "g5;", "c 10 4001 ; ", "r3500;o1; p-1 1;"};
        for (String text : texts) {
            int orders = 0;
            for (int length = 0; length <= text.length(); length++) {
                String cut = text.substring(0, length);
                boolean whole = cut.trim().endsWith(";");
                orders = (int) cut.chars().filter(c -> c == ';').count();
                Check.due("does() of '" + cut + "'", Check.does(new GaugeBounds(), cut), whole ? orders : -10 - length);
            }
            Check.holds("'" + text + "' has orders", orders > 0);
        }
    }

    private static void emptyOrBlanks() {
        for (int blanks = 0; blanks <= 120; blanks++) {
            GaugeBounds x = new GaugeBounds();
            Check.due("does() of " + blanks + " blanks", Check.does(x, " ".repeat(blanks)), -10 - blanks);
            Check.due("STATES", x.refused(4), 0);
            Check.due("BAD, NO, FULL", x.refused(0) + x.refused(1) + x.refused(2), 0);
        }
        Script.run("cleared", "does(o5;) = 1 | clear() = 3 | does() = -10 | OFFSET = 5 | STATES = 1");
    }

    private static void oneToFourFigures() {
        Script.run("one figure", "does(r3;) = -1000 | does(o3;) = 1 | does(p1 3;) = 1 | does(c0 3;) = 1");
        Script.run("four figures", "does(r3500;) = 1 | does(o0003;) = 1 | does(p0001 0003;) = 1 | does(p-0001 0003;) = 1",
            "does(c0000 0003;) = 1",
            "OFFSET = 3 | setting(2) = 3 | STEPS = 6 | DRAWN = 0");
        Script.run("no figure", "does(r;) = -11 | does(o ;) = -12 | does(p;) = -11 | does(p1 ;) = -13 | does(p-;) = -12",
            "does(c0 ;) = -13 | does(l-1;) = -13");
        Script.run("a fifth figure", "does(r35000;) = -15 | does(o00003;) = -15 | does(g00003;) = -15",
            "does(p00001 3;) = -15",
            "does(p-00001 3;) = -16 | does(p1 00003;) = -17 | does(l1 00003;) = -17 | does(c00000 3;) = -15",
            "does(c0 00003;) = -17");
        Script.run("many figures: the fifth it is", "does(r000000003500;) = -15 | does(p1 99999999999;) = -17");
        Script.run("the largest number", "does(r9999;) = -1000 | does(p9999 9999;) = -1000 | does(p-9999 9999;) = -1000",
            "does(c9999 9999;) = -1000 | does(c10 9999;) = 1");
        Script.run("- and 0", "does(p-0 5;) = 1 | STEPS = 5 | DRAWN = 0 | does(l-0 5;) = -1000 | does(p-0000 5;) = 1");
    }

    private static void blanksWhereNeeded() {
        Script.run("needed between two numbers", "does(p13;) = -13 | does(p1 3;) = 1 | does(p1  3;) = 1",
            "does(c0 3;) = 1 | does(c03;) = -13");
        Script.run("not needed elsewhere", "does(p1 3;r3500;l1 1;o1;g1;c5 3500;) = 6");
        Script.run("anywhere else", "does(  p  1   3  ;  r  3500  ;  l  -1  1  ;  o  1  ;  ) = 4");
        Script.run("not within a number", "does(r35 00;) = -14 | does(p1 3 5;) = -15 | does(o0 1;) = -13",
            "does(c1 33 00;) = -16");
        Script.run("not between - and its figures", "does(p- 1 3;) = -12 | does(l-  1 3;) = -12 | does(p -1 3;) = 1",
            "does(p - 1 3;) = -13");
        Script.run("- ahead of i alone", "does(p1 -3;) = -13 | does(p1-3;) = -12 | does(l1 -3;) = -13 | does(r-1;) = -11",
            "does(o-1;) = -11",
            "does(g-1;) = -11 | does(c-1 5;) = -11 | does(c1 -5;) = -13 | does(p--1 3;) = -12");
    }

    private static void readWholeFirst() {
        Script.run("a FAULT behind an ORDER that would be refused", "does(o10;) = -1000 | does(o10;x) = -14",
            "does(o10;o) = -15 | does(r0;r12345;) = -18");
        Script.run("a FAULT behind ORDERS that would be done", "does(o5;g5;p1 1;x) = -21 | OFFSET = 1 | CLING = 10",
            "STEPS = 0 | STATES = 0",
            "does(o5;g5;p1 1) = -20 | OFFSET = 1 | CLING = 10 | STEPS = 0 | STATES = 0");
        Script.run("the first FAULT of two", "does(x;y;) = -10 | does(o1;y;x;) = -13");
        String last = "o1;".repeat(39);
        Script.run("a FAULT at the first byte and the last", "does(;) = -10 | does(" + last + "o1x) = -129",
            "does(" + last + "o1 ) = -130");
    }

    private static void ordersAtTheirRanges() {
        Script.run("p: i", "begins(0, 99999) | holds(50000, 60000)", "does(p99 1;) = 1 | does(p100 1;) = -1000",
            "does(p-99 1;) = 1 | does(p-100 1;) = -1000");
        Script.run("p: n", "does(p1 1;) = 1 | does(p1 0;) = -1000 | does(p1 999;) = 1 | does(p1 1000;) = -1000",
            "STEPS = 1000");
        Script.run("r", "clings(0) | curve(0, 0) | curve(10, 9999) | does(r0;) = 1 | does(r9999;) = 1 | RESTS = 2");
        Script.run("l: i", "does(l99 1;) = 1 | does(l100 1;) = -1000 | does(l-99 1;) = 1 | does(l-100 1;) = -1000",
            "does(l0 1;) = -1000 | does(l1 1;) = 1 | does(l-1 1;) = 1 | band(0, 6, 1) = 2 | band(1, 6, 1) = 2");
        Script.run("l: v", "does(l1 0;) = 1 | band(0, 6, 0) = 366600 | does(l-1 9999;) = 1 | band(1, 6, 0) = 633300");
        Script.run("o", "does(o0;) = 1 | OFFSET = 0 | does(o9;) = 1 | OFFSET = 9 | does(o10;) = -1000 | OFFSET = 9");
        Script.run("g", "does(g0;) = 1 | CLING = 0 | does(g500;) = 1 | CLING = 500 | does(g501;) = -1000 | CLING = 500");
        Script.run("c: k", "does(c0 1;) = 1 | does(c10 9998;) = 1 | does(c11 9999;) = -1000 | setting(2) = 1",
            "setting(12) = 9998");
        Script.run("c: v", "does(c0 0;) = 1 | does(c10 9999;) = 1 | setting(2) = 0 | setting(12) = 9999");
    }

    private static void ordersThatAreNo() {
        Script.run("p: H", "offset(0) | holds(0, 10) | does(p11 1;) = -1000 | H = 10 | does(p10 1;) = 1 | H = 0");
        Script.run("p: L", "offset(0) | holds(990, 995) | does(p-11 1;) = -1000 | L = 990 | does(p-10 1;) = 1 | L = 1000");
        Script.run("r", "does(r2989;) = -1000 | does(r4011;) = -1000 | RESTS = 0 | does(r4010;) = 1 | does(r2990;) = 1",
            "RESTS = 2");
        Script.run("c", "does(c5 3400;) = -1000 | does(c5 3600;) = -1000 | setting(7) = 3500 | does(c5 3401;) = 1",
            "does(c5 3599;) = 1",
            "does(c0 3100;) = -1000 | does(c0 3099;) = 1 | does(c10 3900;) = -1000 | does(c10 3901;) = 1");
    }

    private static void ordersEndAllByTheirNumber() {
        for (int number = 0; number < 40; number++) {
            GaugeBounds x = new GaugeBounds();
            String text = "o2;".repeat(number) + "r0;" + "o3;".repeat(39 - number);
            Check.due("ORDER " + number + " ends all", Check.does(x, text), -1000 - number);
            Check.due("nothing is done", x.setting(0), 1);
            Check.due("STATES", x.refused(4), 0);
        }
        Script.run("the first of two", "does(o1;r0;o10;) = -1001 | does(o10;r0;) = -1000");
        Script.run("by what those ahead have done", "does(o0;p10 100;p1 1;) = -1002 | H = 1000 | OFFSET = 1",
            "does(o0;p10 100;p0 1;) = 3 | H = 0",
            "back() | does(c1 3050;c0 3050;) = -1001 | does(c1 3051;c0 3050;) = 2");
        Script.run("nothing at all is done", "rests(3700) | loads(5, 3000)",
            "does(o0;g3;c5 3555;l5 3;l-5 3;p9 9;r3650;o10;) = -1007",
            "OFFSET = 1 | CLING = 10 | setting(7) = 3500 | bands() = 1 | band(0, 7, 1) = 1 | STEPS = 0 | L = 345",
            "H = 710 | RESTS = 1 | SHOWN = 100",
            "a = 690 | b = 710 | STATES = 2 | back() = 1 | bands() = 0 | RESTS = 1 | back() = 0 | RESTS = 0");
    }

    private static void doesCountsNothing() {
        Script.run("BAD", "does(o10;) = -1000 | BADS = 0 | does() = -1000 | BADS = 0");
        Script.run("NO", "does(r0;) = -1000 | NOS = 0 | does(c0 3100;) = -1000 | NOS = 0");
        Script.run("a FAULT", "does(x) = -10 | clear() | does() = -10 | BADS = 0 | NOS = 0 | FULLS = 0");
        Script.run("type counts as any call", "type(128) = BAD | BADS = 1 | does() = -10 | BADS = 1");
    }

    private static void oneStateForAll() {
        GaugeBounds x = new GaugeBounds();
        Check.due("40 ORDERS", Check.does(x, "o2;o3;o4;o5;".repeat(10)), 40);
        Check.due("one STATE", x.refused(4), 1);
        Check.due("back()", x.back(), 0);
        Check.due("OFFSET", x.setting(0), 1);
        Script.run("also if nothing becomes other", "does(o1;) = 1 | STATES = 1 | does(o2;o1;) = 2 | STATES = 2");
        Script.run("5 at most", "does(o1;) | does() | does() | does() | STATES = 4 | does() | STATES = 5 | does()",
            "STATES = 5");
        Script.run("none by a FAULT or an ORDER that ends all", "offset(2) | does(x) = -10 | does(o3;o10;) = -1001",
            "STATES = 1 | back() = 0 | OFFSET = 1");
    }

    private static void theTextStays() {
        Script.run("done", "does(o2;) = 1 | BYTES = 3 | does() = 1 | BYTES = 3 | text(o3;) | does() = 2 | OFFSET = 3");
        Script.run("a FAULT", "does(o2) = -12 | BYTES = 2 | text(;) | does() = 1 | OFFSET = 2");
        Script.run("an ORDER that ends all", "does(o10;) = -1000 | BYTES = 4 | does() = -1000 | clear() = 4");
        Script.run("back leaves it", "does(o2;) = 1 | back() | BYTES = 3 | does() = 1 | OFFSET = 2");
    }
}
