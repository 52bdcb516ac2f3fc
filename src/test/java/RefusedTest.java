import java.util.LinkedHashMap;
import java.util.Map;
import java.util.function.ToLongFunction;

/** A refused call, of any kind, changes nothing but how often. */
public final class RefusedTest {
    public static void main(String[] args) {
        refusedAs(0, GaugeBounds.BAD, bad());
        refusedAs(1, GaugeBounds.NO, no());
        refusedAs(2, GaugeBounds.FULL, Map.of("type(32)", x -> {
            Check.type(x, " ".repeat(120 - x.refused(3)));
            return x.type(32);
        }));
        Check.end("RefusedTest");
    }

    private static Map<String, ToLongFunction<GaugeBounds>> bad() {
        Map<String, ToLongFunction<GaugeBounds>> calls = new LinkedHashMap<>();
        calls.put("begins", x -> x.begins(3, 2));
        calls.put("holds", x -> x.holds(0, 99999));
        calls.put("offset", x -> x.offset(10));
        calls.put("clings", x -> x.clings(501));
        calls.put("curve", x -> x.curve(11, 9999));
        // NO as well, but BAD comes first
        calls.put("passes", x -> x.passes(99, 1000));
        calls.put("rests", x -> x.rests(10000));
        calls.put("loads", x -> x.loads(0, 3000));
        calls.put("told", x -> x.told(12));
        calls.put("volts", x -> x.volts(1001));
        calls.put("inverse", x -> x.inverse(3000, 2));
        calls.put("band", x -> x.band(0, 0, 2));
        calls.put("lasts", x -> x.lasts(0, 0));
        calls.put("under", x -> x.under(0));
        calls.put("setting", x -> x.setting(13));
        calls.put("type", x -> x.type(128));
        calls.put("refused", x -> x.refused(5));
        return calls;
    }

    private static Map<String, ToLongFunction<GaugeBounds>> no() {
        Map<String, ToLongFunction<GaugeBounds>> calls = new LinkedHashMap<>();
        calls.put("curve", x -> x.curve(0, 9999));
        calls.put("passes", x -> x.passes(99, 999));
        calls.put("rests", x -> x.rests(9999));
        calls.put("under", x -> x.under(99));
        return calls;
    }

    private static void refusedAs(int what, int answer, Map<String, ToLongFunction<GaugeBounds>> calls) {
        calls.forEach((name, call) -> {
            // a new object each time, as all that is looked at would be too many calls of one
            for (int back = 0; back <= 5; back++) {
                GaugeBounds x = used();
                GaugeBounds untouched = used();
                Check.due(name, call.applyAsLong(x), answer);
                Check.due(name + " then, how often", x.refused(what), 1);
                Check.due(name + " then, STATES", x.refused(4), 5);
                for (int time = 0; time < back; time++) {
                    x.back();
                    untouched.back();
                }
                Check.same(name + " then, " + back + " back", Check.state(x), Check.state(untouched));
            }
        });
    }

    private static GaugeBounds used() {
        GaugeBounds x = new GaugeBounds();
        x.rests(3700);
        x.offset(2);
        x.passes(5, 9);
        x.loads(-7, 3300);
        x.rests(3600);
        x.passes(3, 3);
        Check.type(x, "p1 2;");
        return x;
    }
}
