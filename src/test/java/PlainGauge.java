import java.math.BigDecimal;
import java.math.BigInteger;
import java.math.RoundingMode;
import java.util.ArrayDeque;
import java.util.ArrayList;
import java.util.Deque;
import java.util.HashMap;
import java.util.List;
import java.util.Map;
import java.util.TreeMap;
import java.util.regex.Matcher;
import java.util.regex.Pattern;

/**
 * The document once more, written in another way than the class (named values, exact fractions,
 * searches place by place, a pattern for THE TEXT), for runs that compare the two.
 */
final class PlainGauge {
    static final long NONE = -10000001, BAD = -10000002, NO = -10000003, FULL = -10000004;

    private static final class Refusal extends Exception {
        private static final long serialVersionUID = 1;
        final long answer;

        Refusal(long answer) {
            super(null, null, false, false);
            this.answer = answer;
        }
    }

    private interface Call {
        long answer() throws Refusal;
    }

    private static final String GAP = " *+";
    private static final String NUMBER = GAP + "(?:[0-9]{1,4}+)(?![0-9])";
    private static final String SIGNED = GAP + "-?+(?:[0-9]{1,4}+)(?![0-9])";
    private static final String ORDER = "(?:[pl]" + SIGNED + NUMBER + "|c" + NUMBER + NUMBER
        + "|[rog]" + NUMBER + ")" + GAP + ";";
    private static final Pattern TEXT = Pattern.compile(GAP + "(?:" + ORDER + GAP + ")++");

    private Map<String, Long> values = new HashMap<>();
    private Map<Integer, List<Long>> came = new TreeMap<>();
    private final Deque<Map<String, Long>> olderValues = new ArrayDeque<>();
    private final Deque<Map<Integer, List<Long>>> olderCame = new ArrayDeque<>();
    private final Map<Long, Long> refusals = new HashMap<>();
    private final StringBuilder text = new StringBuilder();

    PlainGauge() {
        put("L", 0);
        put("H", 1000);
        put("C", 500);
        put("D", 1000);
        put("o", 1);
        put("g", 10);
        for (int k = 0; k <= 10; k++) {
            put("point" + k, 3000 + 100 * k);
        }
        put("SHOWN", 100);
        startAnew();
    }

    private void startAnew() {
        put("DRAWN", 0);
        put("STEPS", 0);
        put("CLASHES", 0);
        put("RESTS", 0);
        put("a", NONE);
        put("b", NONE);
        came = new TreeMap<>();
    }

    long call(String name, int... n) {
        switch (name) {
            case "begins": return changing(() -> begins(n[0], n[1]));
            case "holds": return changing(() -> holds(n[0], n[1]));
            case "offset": return changing(() -> set("o", n[0], 9));
            case "clings": return changing(() -> set("g", n[0], 500));
            case "curve": return changing(() -> curve(n[0], n[1]));
            case "passes": return changing(() -> passes(n[0], n[1]));
            case "rests": return changing(() -> rests(n[0]));
            case "loads": return changing(() -> loads(n[0], n[1]));
            case "told": return asking(() -> told(n[0]));
            case "volts": return asking(() -> volts(n[0]));
            case "inverse": return asking(() -> inverse(n[0], n[1]));
            case "band": return asking(() -> band(n[0], n[1], n[2]));
            case "bands": return came.size();
            case "lasts": return asking(() -> lasts(n[0], n[1]));
            case "under": return asking(() -> under(n[0]));
            case "setting": return asking(() -> setting(n[0]));
            case "type": return asking(() -> type(n[0]));
            case "clear": return clear();
            case "does": return does();
            case "back": return asking(this::back);
            case "refused": return asking(() -> refused(n[0]));
            case "digest": return digest();
            default: throw new IllegalArgumentException(name);
        }
    }

    private long asking(Call call) {
        try {
            return call.answer();
        } catch (Refusal r) {
            refusals.merge(r.answer, 1L, Long::sum);
            return r.answer;
        }
    }

    private long changing(Call call) {
        Map<String, Long> valuesWere = new HashMap<>(values);
        Map<Integer, List<Long>> cameWas = copyOfCame();
        return asking(() -> {
            long answer = call.answer();
            leave(valuesWere, cameWas);
            return answer;
        });
    }

    private void leave(Map<String, Long> valuesWere, Map<Integer, List<Long>> cameWas) {
        olderValues.addLast(valuesWere);
        olderCame.addLast(cameWas);
        if (olderValues.size() > 5) {
            olderValues.removeFirst();
            olderCame.removeFirst();
        }
    }

    private Map<Integer, List<Long>> copyOfCame() {
        Map<Integer, List<Long>> copy = new TreeMap<>();
        came.forEach((band, all) -> copy.put(band, new ArrayList<>(all)));
        return copy;
    }

    private long begins(int c, int d) throws Refusal {
        in(c, 0, 99999);
        in(d, 0, 99999);
        in(d, c, 99999);
        long was = get("C");
        startAnew();
        put("C", c);
        put("D", d);
        put("L", 0);
        put("H", d);
        put("SHOWN", 100);
        return was;
    }

    private long holds(int l, int h) throws Refusal {
        in(l, 0, 99999);
        in(h, 0, 99999);
        in(h, l, get("D"));
        long was = get("H");
        put("L", l);
        put("H", h);
        return was;
    }

    private long set(String name, int n, int most) throws Refusal {
        in(n, 0, most);
        return put(name, n);
    }

    private long curve(int k, int v) throws Refusal {
        in(k, 0, 10);
        in(v, 0, 9999);
        long was = put("point" + k, v);
        for (int at = 0; at < 10; at++) {
            if (get("point" + at) >= get("point" + (at + 1))) {
                put("point" + k, was);
                throw new Refusal(NO);
            }
        }
        return was;
    }

    private long passes(int i, int n) throws Refusal {
        in(i, -99, 99);
        in(n, 1, 999);
        long l = get("L") - n * (i + get("o"));
        long h = get("H") - n * (i - get("o"));
        l = l < 0 ? 0 : l;
        h = h > get("D") ? get("D") : h;
        if (h < 0 || l > get("D") || l > h) {
            throw new Refusal(NO);
        }
        put("L", l);
        put("H", h);
        put("DRAWN", get("DRAWN") + n * i);
        put("STEPS", get("STEPS") + n);
        long t = middle() / 10;
        long was = get("SHOWN");
        if (i > 0) {
            long next = was - n;
            next = next < t ? t : next;
            put("SHOWN", next > was ? was : next);
        }
        if (i < 0) {
            long next = was + n;
            next = next > t ? t : next;
            put("SHOWN", next < was ? was : next);
        }
        if (h == 0) {
            put("SHOWN", 0);
        }
        return h - l;
    }

    private long rests(int v) throws Refusal {
        in(v, 0, 9999);
        long a = ofRest(v)[0];
        long b = ofRest(v)[1];
        if (a == NONE || b == NONE) {
            throw new Refusal(NO);
        }
        if (get("RESTS") > 0) {
            learn(a, b);
        }
        long l = ratio(a * get("C"), 1000, RoundingMode.FLOOR);
        long h = ratio(b * get("D"), 1000, RoundingMode.CEILING);
        l = l > get("L") ? l : get("L");
        h = h < get("H") ? h : get("H");
        if (l > h) {
            put("CLASHES", get("CLASHES") + 1);
        } else {
            put("L", l);
            put("H", h);
        }
        for (String name : new String[] {"L", "H"}) {
            if (get(name) > get("D")) {
                put(name, get("D"));
            }
        }
        put("DRAWN", 0);
        put("STEPS", 0);
        put("a", a);
        put("b", b);
        put("RESTS", get("RESTS") + 1);
        if (get("H") == 0) {
            put("SHOWN", 0);
        }
        return get("H") - get("L");
    }

    private void learn(long a, long b) {
        long e = get("DRAWN") - get("o") * get("STEPS");
        long f = get("DRAWN") + get("o") * get("STEPS");
        long c = get("C");
        long d = get("D");
        if (e > 0 && get("b") - a > 0) {
            long learnt = ratio(1000 * e, get("b") - a, RoundingMode.FLOOR);
            c = learnt > c ? learnt : c;
        }
        if (f > 0 && get("a") - b > 0) {
            long learnt = ratio(1000 * f, get("a") - b, RoundingMode.CEILING);
            d = learnt < d ? learnt : d;
        }
        if (c > d) {
            put("CLASHES", get("CLASHES") + 1);
        } else {
            put("C", c);
            put("D", d);
        }
    }

    private long loads(int i, int v) throws Refusal {
        in(i, -99, 99);
        if (i == 0) {
            throw new Refusal(BAD);
        }
        in(v, 0, 9999);
        long r = ratio(100 * (volts(middle()) - v), i, RoundingMode.DOWN);
        came.computeIfAbsent(bandOf(i), band -> new ArrayList<>()).add(r);
        return r;
    }

    private int bandOf(int i) {
        return (i > 0 ? 0 : 11) + (int) (middle() / 100);
    }

    private long told(int what) throws Refusal {
        in(what, 0, 11);
        String[] names = {"L", "H", "C", "D", "", "SHOWN", "DRAWN", "STEPS", "CLASHES", "RESTS", "a", "b"};
        return what == 4 ? middle() : get(names[what]);
    }

    private long volts(long p) throws Refusal {
        in(p, 0, 1000);
        long k = p == 1000 ? 9 : p / 100;
        long from = get("point" + k);
        return from + ratio((get("point" + (k + 1)) - from) * (p - 100 * k), 100, RoundingMode.FLOOR);
    }

    private long inverse(int v, int what) throws Refusal {
        in(v, 0, 9999);
        in(what, 0, 1);
        return ofRest(v)[what];
    }

    private long[] ofRest(int v) throws Refusal {
        long a = NONE;
        long b = NONE;
        for (int p = 0; p <= 1000; p++) {
            if (a == NONE && volts(p) + get("g") >= v) {
                a = p;
            }
            if (volts(p) - get("g") <= v) {
                b = p;
            }
        }
        boolean turned = a != NONE && b != NONE && a > b;
        return turned ? new long[] {b, a} : new long[] {a, b};
    }

    private long band(int sign, int tenth, int what) throws Refusal {
        in(sign, 0, 1);
        in(tenth, 0, 10);
        in(what, 0, 1);
        List<Long> all = came.getOrDefault(11 * sign + tenth, List.of());
        if (what == 1) {
            return all.size();
        }
        return all.isEmpty() ? NONE : resistance(all);
    }

    private long resistance(List<Long> all) {
        BigInteger sum = BigInteger.ZERO;
        for (long r : all) {
            sum = sum.add(BigInteger.valueOf(r));
        }
        return sum.divide(BigInteger.valueOf(all.size())).longValueExact();
    }

    private long lasts(int i, int what) throws Refusal {
        in(i, 1, 99);
        in(what, 0, 1);
        if (what == 0) {
            return ratio(get("L"), i + get("o"), RoundingMode.FLOOR);
        }
        return i <= get("o") ? NONE : ratio(get("H"), i - get("o"), RoundingMode.FLOOR);
    }

    private long under(int i) throws Refusal {
        in(i, -99, 99);
        if (i == 0) {
            throw new Refusal(BAD);
        }
        List<Long> all = came.get(bandOf(i));
        if (all == null) {
            throw new Refusal(NO);
        }
        return volts(middle()) - ratio(i * resistance(all), 100, RoundingMode.DOWN);
    }

    private long setting(int what) throws Refusal {
        in(what, 0, 12);
        return get(what == 0 ? "o" : what == 1 ? "g" : "point" + (what - 2));
    }

    private long type(int c) throws Refusal {
        in(c, 0, 127);
        if (text.length() == 120) {
            throw new Refusal(FULL);
        }
        text.append((char) c);
        return text.length();
    }

    private long clear() {
        long had = text.length();
        text.setLength(0);
        return had;
    }

    private long does() {
        int fault = fault(text.toString());
        if (fault >= 0) {
            return -10 - fault;
        }
        Map<String, Long> valuesWere = new HashMap<>(values);
        Map<Integer, List<Long>> cameWas = copyOfCame();
        String[] orders = text.toString().trim().split(";");
        for (int number = 0; number < orders.length; number++) {
            try {
                order(orders[number].trim());
            } catch (Refusal r) {
                values = valuesWere;
                came = cameWas;
                return -1000 - number;
            }
        }
        leave(valuesWere, cameWas);
        return orders.length;
    }

    private static int fault(String text) {
        for (int end = 1; end <= text.length(); end++) {
            Matcher matcher = TEXT.matcher(text.substring(0, end));
            if (!matcher.matches() && !matcher.hitEnd()) {
                return end - 1;
            }
        }
        return TEXT.matcher(text).matches() ? -1 : text.length();
    }

    private void order(String order) throws Refusal {
        String[] numbers = order.substring(1).trim().split(" +");
        int first = Integer.parseInt(numbers[0]);
        switch (order.charAt(0)) {
            case 'p': passes(first, Integer.parseInt(numbers[1])); break;
            case 'l': loads(first, Integer.parseInt(numbers[1])); break;
            case 'c': curve(first, Integer.parseInt(numbers[1])); break;
            case 'r': rests(first); break;
            case 'o': set("o", first, 9); break;
            default: set("g", first, 500); break;
        }
    }

    private long back() throws Refusal {
        if (olderValues.isEmpty()) {
            throw new Refusal(NO);
        }
        values = olderValues.removeLast();
        came = olderCame.removeLast();
        return olderValues.size();
    }

    private long refused(int what) throws Refusal {
        in(what, 0, 4);
        if (what == 3) {
            return text.length();
        }
        return what == 4 ? olderValues.size() : refusals.getOrDefault(BAD - what, 0L);
    }

    private long digest() {
        List<Long> all = new ArrayList<>();
        for (int what = 0; what < 5; what++) {
            all.add(call("refused", what));
        }
        for (int what = 0; what < 12; what++) {
            all.add(call("told", what));
        }
        for (int what = 0; what < 13; what++) {
            all.add(call("setting", what));
        }
        all.add(call("bands"));
        for (int at = 0; at < 44; at++) {
            all.add(call("band", at / 22, at / 2 % 11, at % 2));
        }
        for (int at = 0; at < 6; at++) {
            all.add(call("lasts", 1 + at / 2, at % 2));
        }
        BigInteger h = BigInteger.valueOf(1690);
        for (long v : all) {
            h = h.multiply(BigInteger.valueOf(31)).add(BigInteger.valueOf(v));
        }
        return h.longValue();
    }

    private long middle() {
        long capacities = get("C") + get("D");
        if (capacities == 0) {
            return 0;
        }
        long middle = ratio(1000 * (get("L") + get("H")), capacities, RoundingMode.FLOOR);
        return middle > 1000 ? 1000 : middle;
    }

    private static long ratio(long above, long below, RoundingMode how) {
        return new BigDecimal(above).divide(new BigDecimal(below), 0, how).longValueExact();
    }

    private static void in(long n, long least, long most) throws Refusal {
        if (n < least || n > most) {
            throw new Refusal(BAD);
        }
    }

    private long get(String name) {
        return values.get(name);
    }

    private long put(String name, long value) {
        Long was = values.put(name, value);
        return was == null ? NONE : was;
    }
}
