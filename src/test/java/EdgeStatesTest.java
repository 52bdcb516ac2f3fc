/** Edges of STATES and refusals (promises 1, 2, 21, 22, 23): 5 at most, which refusal comes first, what they leave. */
public final class EdgeStatesTest {
    /** Every call told S, so that it is not refused on a new object. */
    private static final String[] LEAVING = {"begins(500, 1000)", "holds(0, 1000)", "offset(1)", "clings(10)",
        "curve(5, 3500)", "passes(0, 1)", "rests(3500)", "loads(1, 3000)", "does(o1;)"};
    /** The same calls, refused. */
    private static final String[] REFUSED = {"begins(1, 0) = BAD", "holds(0, 1001) = BAD", "offset(10) = BAD", "clings(501) = BAD",
        "curve(5, 3600) = NO", "curve(11, 5) = BAD", "passes(99, 999) = NO", "passes(0, 0) = BAD", "rests(2989) = NO",
        "rests(10000) = BAD", "loads(0, 3000) = BAD", "does(o10;) = -1000", "does(x) = -10"};
    private static final String[] ASKING = {"told(0)", "volts(0)", "inverse(3500, 0)", "band(0, 0, 0)", "bands()", "lasts(1, 0)",
        "setting(0)", "type(32)", "clear()", "refused(0)", "digest()"};

    public static void main(String[] args) {
        noneAtFirst();
        eachLeavesOne();
        refusedLeavesNone();
        askingLeavesNone();
        fiveAtMost();
        olderOnesAreLost();
        backAndOnward();
        backBringsAllButTheText();
        badComesFirst();
        refusedCounts();
        beginsForgetsAll();
        digestCountsNothing();
        Check.end("EdgeStatesTest");
    }

    private static void noneAtFirst() {
        Script.run("a new object has none", "STATES = 0 | back() = NO | back() = NO | NOS = 2 | STATES = 0");
        Script.run("one", "offset(2) | STATES = 1 | back() = 0 | STATES = 0 | OFFSET = 1 | back() = NO | OFFSET = 1",
            "NOS = 1");
    }

    private static void eachLeavesOne() {
        for (String call : LEAVING) {
            GaugeBounds untouched = new GaugeBounds();
            GaugeBounds x = Script.run("it leaves one", call, "STATES = 1", call, "STATES = 2 | back() = 1 | back() = 0");
            Check.same(call + ", taken back", Check.state(x), Check.state(untouched));
            Check.due(call + ", refused", x.refused(0) + x.refused(1) + x.refused(2), 0);
        }
    }

    private static void refusedLeavesNone() {
        for (String call : REFUSED) {
            Script.run("refused, none is left", call, "STATES = 0 | back() = NO");
            Script.run("refused behind two", "offset(2) | offset(3)", call, "STATES = 2 | back() = 1 | OFFSET = 2",
                call, "back() = 0 | OFFSET = 1");
            Script.run("refused behind six", "offset(2) | offset(3) | offset(4) | offset(5) | offset(6) | offset(7)", call,
                "STATES = 5 | back() = 4 | OFFSET = 6 | back() = 3 | back() = 2 | back() = 1 | back() = 0 | OFFSET = 2");
        }
    }

    private static void askingLeavesNone() {
        for (String call : ASKING) {
            Script.run("asked, none is left", call, "STATES = 0 | offset(2)", call, "STATES = 1 | back() = 0 | OFFSET = 1");
        }
        Script.run("under", "loads(1, 3666) | under(1) = 3666 | under(-1) = NO | STATES = 1");
        Script.run("back", "offset(2) | offset(3) | back() = 1 | STATES = 1");
    }

    private static void fiveAtMost() {
        String four = "offset(2) | offset(3) | offset(4) | offset(5) | STATES = 4";
        Script.run("the fifth", four, "offset(6) | STATES = 5 | back() = 4 | back() = 3 | back() = 2 | back() = 1",
            "back() = 0",
            "OFFSET = 1 | back() = NO");
        Script.run("the sixth", four, "offset(6) | offset(7) | STATES = 5 | back() = 4 | back() = 3 | back() = 2",
            "back() = 1 | back() = 0",
            "OFFSET = 2 | back() = NO | OFFSET = 2");
    }

    /** However many came, the last five can be had again, each as it was. */
    private static void olderOnesAreLost() {
        for (int many = 0; many <= 20; many++) {
            GaugeBounds x = new GaugeBounds();
            for (int n = 1; n <= many; n++) {
                x.clings(100 + n);
            }
            int kept = Math.min(many, 5);
            Check.due("STATES of " + many, x.refused(4), kept);
            for (int back = 1; back <= kept; back++) {
                Check.due("back() of " + many, x.back(), kept - back);
                Check.due("CLING, " + back + " back of " + many, x.setting(1), many - back == 0 ? 10 : 100 + many - back);
            }
            Check.due("back() once more", x.back(), GaugeBounds.NO);
        }
    }

    private static void backAndOnward() {
        Script.run("one back, one new", "offset(2) | offset(3) | back() = 1 | offset(4) = 2 | STATES = 2 | back() = 1",
            "OFFSET = 2 | back() = 0 | OFFSET = 1");
        Script.run("five back, six new", "offset(2) | offset(3) | offset(4) | offset(5) | offset(6)",
            "back() | back() | back() | back() | back() = 0 | OFFSET = 1",
            "clings(2) | clings(3) | clings(4) | clings(5) | clings(6) | clings(7) | STATES = 5",
            "back() = 4 | back() | back() | back() | back() = 0 | CLING = 2 | OFFSET = 1 | back() = NO");
        Script.run("none was full, two back, three new", "offset(2) | offset(3) | offset(4) | offset(5) | offset(6)",
            "back() = 4 | back() = 3 | OFFSET = 4 | clings(1) | clings(2) | STATES = 5 | clings(3) | STATES = 5",
            "back() = 4 | back() = 3 | back() = 2 | CLING = 10 | OFFSET = 4 | back() = 1 | OFFSET = 3 | back() = 0",
            "OFFSET = 2 | back() = NO");
    }

    private static void backBringsAllButTheText() {
        String ready = "passes(10, 20) | rests(3700) | loads(10, 3300) | passes(10, 2) | rests(3100)";
        long[] before = Check.state(Script.run("all that a STATE holds", ready));
        for (String call : new String[] {"begins(1, 2)", "holds(1, 2)", "offset(9)", "clings(500)", "curve(0, 0)", "passes(9, 9)",
            "rests(3500)", "loads(-1, 0)", "does(o0;g0;c5 3555;p1 1;r3400;l10 3000;l-10 3000;p-3 3;)"}) {
            GaugeBounds y = Script.run("taken back", ready, call, "back() = 4");
            Check.same(call + ", taken back", Check.state(y), before);
        }
        Script.run("not THE TEXT", "text(o1;) | offset(2) | text(o5;) | back() = 0 | BYTES = 6 | does() = 2 | OFFSET = 5",
            "clear() = 6 | back() = 0 | BYTES = 0");
        Script.run("not how often", "offset(2) | told(12) = BAD | rests(0) = NO | back() = 0 | BADS = 1 | NOS = 1",
            "back() = NO | NOS = 2");
    }

    private static void badComesFirst() {
        Script.run("curve: BAD, and it would not rise", "curve(0, 10000) = BAD | curve(10, -1) = BAD",
            "curve(5, 10000) = BAD | curve(5, -1) = BAD",
            "curve(11, 0) = BAD | curve(-1, 9999) = BAD | BADS = 6 | NOS = 0 | curve(0, 9999) = NO | curve(10, 0) = NO",
            "BADS = 6 | NOS = 2");
        Script.run("passes: BAD, and H would be below 0, L above D", "passes(99, 1000) = BAD | passes(100, 999) = BAD",
            "passes(-99, 1000) = BAD",
            "passes(-100, 999) = BAD | BADS = 4 | NOS = 0 | passes(99, 999) = NO | passes(-99, 999) = NO | BADS = 4",
            "NOS = 2");
        Script.run("rests: BAD, and one is none", "rests(-1) = BAD | rests(10000) = BAD | BADS = 2 | NOS = 0",
            "rests(0) = NO | rests(9999) = NO | BADS = 2 | NOS = 2");
        Script.run("under: BAD, and none came", "under(0) = BAD | under(100) = BAD | under(-100) = BAD | BADS = 3",
            "NOS = 0 | under(99) = NO | under(-99) = NO | NOS = 2");
        Script.run("type: BAD, and it is full", "text(" + " ".repeat(120) + ") | type(128) = BAD | type(-1) = BAD",
            "BADS = 2 | FULLS = 0",
            "type(127) = FULL | type(0) = FULL | BADS = 2 | FULLS = 2 | NOS = 0");
    }

    private static void refusedCounts() {
        Script.run("BAD of getters, too", "told(12) = BAD | BADS = 1 | volts(1001) = BAD | inverse(0, 2) = BAD",
            "band(2, 0, 0) = BAD | lasts(0, 0) = BAD",
            "under(0) = BAD | setting(13) = BAD | type(128) = BAD | refused(5) = BAD | BADS = 9 | NOS = 0 | FULLS = 0");
        Script.run("refused counts itself", "refused(5) = BAD | refused(0) = 1 | refused(-1) = BAD | refused(0) = 2");
        Script.run("NO", "curve(0, 3100) = NO | passes(99, 99) = NO | rests(0) = NO | under(1) = NO | back() = NO",
            "NOS = 5 | BADS = 0");
        Script.run("NONE is no refusal", "told(10) = NONE | told(11) = NONE | inverse(0, 1) = NONE",
            "inverse(9999, 0) = NONE | band(0, 0, 0) = NONE | lasts(1, 1) = NONE",
            "BADS = 0 | NOS = 0 | FULLS = 0");
        Script.run("bytes", "BYTES = 0 | type(32) = 1 | BYTES = 1 | type(128) = BAD | BYTES = 1 | clear() = 1 | BYTES = 0");
    }

    private static void beginsForgetsAll() {
        Script.run("begins: no REST, no DRAWN, no BANDS, no CLASHES", "rests(3500) | holds(0, 0) | rests(3500)",
            "CLASHES = 1 | passes(-9, 2) | loads(1, 0) | loads(-1, 0)",
            "begins(500, 1000) = 500 | L = 0 | H = 1000 | C = 500 | D = 1000 | MIDDLE = 666 | SHOWN = 100 | DRAWN = 0",
            "STEPS = 0",
            "CLASHES = 0 | RESTS = 0 | a = NONE | b = NONE | bands() = 0 | STATES = 5");
        Script.run("begins: nothing of a BAND's sum is left", "loads(1, 0) = 366600 | loads(-1, 0) = -366600",
            "begins(500, 1000)",
            "loads(1, 3666) = 0 | band(0, 6, 0) = 0 | band(0, 6, 1) = 1 | loads(-1, 3666) = 0 | band(1, 6, 0) = 0",
            "band(1, 6, 1) = 1");
        Script.run("begins that is BAD forgets nothing", "rests(3500) | passes(-9, 2) | loads(1, 0)",
            "begins(1001, 1000) = BAD | begins(0, 100000) = BAD",
            "DRAWN = -18 | STEPS = 2 | RESTS = 1 | bands() = 1 | C = 500 | D = 1000 | STATES = 3");
    }

    private static void digestCountsNothing() {
        GaugeBounds x = Script.run("ahead of digest", "holds(100, 900) | loads(1, 0) | offset(0) | type(128) = BAD",
            "rests(0) = NO | text(p1)");
        long first = x.digest();
        Check.due("digest() again", x.digest(), first);
        Check.due("digest()", first, DigestTest.byGetters(x));
        Check.due("BAD", x.refused(0), 1);
        Check.due("NO", x.refused(1), 1);
        Check.due("STATES", x.refused(4), 3);
        x.told(-1);
        Check.holds("digest() tells how often", x.digest() != first);
    }
}
