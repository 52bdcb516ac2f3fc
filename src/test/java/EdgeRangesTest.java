import java.util.Arrays;

/**
 * BAD: every number of every call, the last that is as told and the first that is not, on both sides of
 * its range (promises 2 to 18, 22), and that the call which is refused changes nothing but how often.
 */
public final class EdgeRangesTest {
    private static final String[] READY = {
        "begins(90000, 99999) = 500 | holds(50000, 60000) = 99999 | rests(3550) = 6000",
        "loads(5, 3000) = 11140 | loads(-5, 3900) = 6860 | passes(1, 1) = 6002 | text(p1 1;)",
        "L = 49998 | H = 56000 | C = 90000 | D = 99999 | MIDDLE = 557"};

    public static void main(String[] args) {
        begins();
        holds();
        offset();
        clings();
        curve();
        passes();
        rests();
        loads();
        told();
        volts();
        inverse();
        band();
        lasts();
        under();
        setting();
        type();
        refused();
        Check.end("EdgeRangesTest");
    }

    private static void begins() {
        asTold("begins(0, 99999) = 90000", "begins(99999, 99999) = 90000", "begins(0, 0) = 90000");
        bad("begins(-1, 99999)", "begins(100000, 100000)", "begins(100000, 99999)", "begins(0, -1)", "begins(0, 100000)");
        bad("begins(MIN, 99999)", "begins(MAX, 99999)", "begins(0, MIN)", "begins(0, MAX)", "begins(MIN, MAX)");
        asTold("begins(500, 500) = 90000", "begins(500, 501) = 90000", "begins(99998, 99999) = 90000");
        bad("begins(500, 499)", "begins(1, 0)", "begins(99999, 99998)", "begins(-1, -1)", "begins(-1, -2)");
    }

    private static void holds() {
        asTold("holds(0, 99999) = 56000", "holds(99999, 99999) = 56000", "holds(0, 0) = 56000");
        bad("holds(-1, 99999)", "holds(100000, 100000)", "holds(100000, 99999)", "holds(0, -1)", "holds(0, 100000)");
        bad("holds(MIN, 99999)", "holds(MAX, 99999)", "holds(0, MIN)", "holds(0, MAX)", "holds(MIN, MAX)");
        asTold("holds(500, 500) = 56000", "holds(500, 501) = 56000");
        bad("holds(500, 499)", "holds(1, 0)", "holds(99999, 99998)", "holds(-1, -1)", "holds(-1, -2)");
        Script.run("holds: h above D", "begins(0, 2000) | holds(0, 2001) = BAD | holds(2001, 2001) = BAD | BADS = 2",
            "H = 2000 | holds(0, 2000) = 2000 | holds(2000, 2000) = 2000 | L = 2000 | BADS = 2");
        Script.run("holds: h above D, where C is below it", "holds(501, 501) = 1000 | holds(0, 1000) = 501",
            "holds(0, 1001) = BAD");
        Script.run("holds: D is 0", "begins(0, 0) | holds(0, 0) = 0 | holds(0, 1) = BAD | holds(1, 1) = BAD");
    }

    private static void offset() {
        asTold("offset(0) = 1", "offset(9) = 1");
        bad("offset(-1)", "offset(10)", "offset(MIN)", "offset(MAX)");
    }

    private static void clings() {
        asTold("clings(0) = 10", "clings(500) = 10");
        bad("clings(-1)", "clings(501)", "clings(MIN)", "clings(MAX)");
    }

    private static void curve() {
        asTold("curve(0, 2999) = 3000", "curve(10, 4001) = 4000");
        bad("curve(-1, 2999)", "curve(11, 4001)", "curve(MIN, 2999)", "curve(MAX, 4001)");
        asTold("curve(0, 0) = 3000", "curve(10, 9999) = 4000");
        bad("curve(0, -1)", "curve(10, 10000)", "curve(0, MIN)", "curve(10, MAX)", "curve(5, -1)", "curve(5, 10000)");
    }

    private static void passes() {
        asTold("passes(99, 1) = 6004", "passes(-99, 1) = 6004");
        bad("passes(100, 1)", "passes(-100, 1)", "passes(MIN, 1)", "passes(MAX, 1)");
        asTold("passes(0, 1) = 6004", "passes(0, 999) = 8000");
        bad("passes(0, 0)", "passes(0, 1000)", "passes(0, -1)", "passes(0, MIN)", "passes(0, MAX)");
    }

    private static void rests() {
        bad("rests(-1)", "rests(10000)", "rests(MIN)", "rests(MAX)");
        Script.run("rests: 0 and 9999 are voltages", "rests(0) = NO | rests(9999) = NO | BADS = 0 | NOS = 2");
        Script.run("rests: 0 and 9999 on a curve that has them", "clings(0) | curve(0, 0) | curve(10, 9999)",
            "rests(9999) = 500 | a = 1000 | b = 1000 | rests(0) = 500 | a = 0 | b = 0 | BADS = 0");
        Script.run("rests: -1 and 10000 are none, though CLING would reach", "clings(500) | curve(0, 0) | curve(10, 9999)",
            "rests(-1) = BAD | rests(10000) = BAD | RESTS = 0 | BADS = 2");
    }

    private static void loads() {
        asTold("loads(99, 3000) = 562", "loads(-99, 3000) = -562", "loads(1, 3000) = 55700", "loads(-1, 3000) = -55700");
        bad("loads(100, 3000)", "loads(-100, 3000)", "loads(0, 3000)", "loads(MIN, 3000)", "loads(MAX, 3000)");
        asTold("loads(1, 0) = 355700", "loads(1, 9999) = -644200", "loads(-1, 0) = -355700");
        bad("loads(1, -1)", "loads(1, 10000)", "loads(1, MIN)", "loads(1, MAX)", "loads(-1, -1)", "loads(0, 0)");
    }

    private static void told() {
        asTold("told(0) = 49998", "told(11) = 560");
        bad("told(-1)", "told(12)", "told(MIN)", "told(MAX)");
    }

    private static void volts() {
        asTold("volts(0) = 3000", "volts(1000) = 4000");
        bad("volts(-1)", "volts(1001)", "volts(MIN)", "volts(MAX)");
    }

    private static void inverse() {
        asTold("inverse(0, 0) = 0", "inverse(9999, 1) = 1000");
        bad("inverse(-1, 0)", "inverse(10000, 1)", "inverse(MIN, 0)", "inverse(MAX, 1)");
        asTold("inverse(3000, 0) = 0", "inverse(3000, 1) = 10");
        bad("inverse(3000, -1)", "inverse(3000, 2)", "inverse(3000, MIN)", "inverse(3000, MAX)");
    }

    private static void band() {
        asTold("band(0, 5, 0) = 11140", "band(1, 5, 0) = 6860");
        bad("band(-1, 5, 0)", "band(2, 5, 0)", "band(MIN, 5, 0)", "band(MAX, 5, 0)", "band(-1, 5, 1)", "band(2, 5, 1)");
        asTold("band(0, 0, 1) = 0", "band(0, 10, 1) = 0", "band(1, 0, 0) = NONE", "band(1, 10, 0) = NONE");
        bad("band(0, -1, 1)", "band(0, 11, 1)", "band(1, -1, 0)", "band(1, 11, 0)", "band(0, MIN, 0)", "band(0, MAX, 1)");
        bad("band(0, 16, 0)", "band(1, -6, 0)");
        asTold("band(0, 5, 0) = 11140", "band(0, 5, 1) = 1");
        bad("band(0, 5, -1)", "band(0, 5, 2)", "band(0, 5, MIN)", "band(0, 5, MAX)");
    }

    private static void lasts() {
        asTold("lasts(1, 0) = 24999", "lasts(99, 0) = 499", "lasts(99, 1) = 571");
        bad("lasts(0, 0)", "lasts(100, 0)", "lasts(0, 1)", "lasts(100, 1)", "lasts(-1, 0)", "lasts(MIN, 0)", "lasts(MAX, 0)");
        asTold("lasts(2, 0) = 16666", "lasts(2, 1) = 56000");
        bad("lasts(2, -1)", "lasts(2, 2)", "lasts(2, MIN)", "lasts(2, MAX)", "lasts(1, 2)");
    }

    private static void under() {
        asTold("under(99) = -7471", "under(-99) = 10348", "under(1) = 3446", "under(-1) = 3625");
        bad("under(100)", "under(-100)", "under(0)", "under(MIN)", "under(MAX)");
    }

    private static void setting() {
        asTold("setting(0) = 1", "setting(1) = 10", "setting(2) = 3000", "setting(12) = 4000");
        bad("setting(-1)", "setting(13)", "setting(MIN)", "setting(MAX)");
    }

    private static void type() {
        asTold("type(0) = 6", "type(127) = 6");
        bad("type(-1)", "type(128)", "type(MIN)", "type(MAX)", "type(255)", "type(256)");
    }

    private static void refused() {
        asTold("refused(0) = 0", "refused(4) = 5");
        bad("refused(-1)", "refused(5)", "refused(MIN)", "refused(MAX)");
    }

    private static void asTold(String... rows) {
        for (String row : rows) {
            GaugeBounds x = Script.run("as told", ready(row));
            for (int what = 0; what <= 2; what++) {
                Check.due(row + " then, refused(" + what + ")", x.refused(what), 0);
            }
        }
    }

    private static void bad(String... calls) {
        for (String call : calls) {
            GaugeBounds x = Script.run("not as told", ready(call + " = BAD"));
            GaugeBounds other = Script.run("another call that is refused", ready("told(-1) = BAD"));
            Check.due(call + " then, refused(0)", x.refused(0), 1);
            for (int back = 0; back <= 5; back++) {
                Check.due(call + " then, digest() " + back + " back", x.digest(), other.digest());
                Check.due(call + " then, back()", x.back(), back < 5 ? 4 - back : GaugeBounds.NO);
                other.back();
            }
        }
    }

    private static String[] ready(String last) {
        String[] rows = Arrays.copyOf(READY, READY.length + 1);
        rows[READY.length] = last;
        return rows;
    }
}
