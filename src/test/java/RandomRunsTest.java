import java.util.Arrays;
import java.util.Random;

/** Long runs of calls by chance (always the same ones): the class against the plain gauge. */
public final class RandomRunsTest {
    private static final int RUNS = 600;
    private static final int CALLS = 512;
    private static final String[] CHANGING = {
        "begins", "holds", "offset", "clings", "curve", "passes", "passes", "passes", "passes",
        "rests", "rests", "rests", "loads", "loads"};
    private static final String[] ASKING = {
        "told", "volts", "inverse", "band", "bands", "lasts", "under", "setting", "refused", "back", "digest"};

    private final Random chance;
    private final GaugeBounds x = new GaugeBounds();
    private final PlainGauge plain = new PlainGauge();
    private final int run;
    private int calls = 0;

    private RandomRunsTest(int run) {
        this.run = run;
        chance = new Random(9000 + run);
    }

    public static void main(String[] args) {
        for (int run = 0; run < RUNS && !Check.anyWrong(); run++) {
            new RandomRunsTest(run).go();
        }
        Check.end("RandomRunsTest");
    }

    private void go() {
        while (calls < CALLS && !Check.anyWrong()) {
            int kind = chance.nextInt(20);
            if (kind < 11) {
                compareNumbers(CHANGING[chance.nextInt(CHANGING.length)]);
            } else if (kind < 18) {
                compareNumbers(ASKING[chance.nextInt(ASKING.length)]);
            } else if (kind == 18) {
                typeText();
            } else {
                compare("does");
                if (chance.nextBoolean()) {
                    compare("clear");
                }
            }
            compare("digest");
        }
    }

    private void typeText() {
        String text = chance.nextInt(4) == 0 ? rubbish() : orders();
        for (int at = 0; at < text.length(); at++) {
            compare("type", text.charAt(at));
        }
        compare("does");
        if (chance.nextInt(3) > 0) {
            compare("clear");
        }
    }

    private String orders() {
        StringBuilder text = new StringBuilder();
        int many = 1 + chance.nextInt(4);
        for (int order = 0; order < many; order++) {
            char kind = "pprrlogc".charAt(chance.nextInt(8));
            int[] n = numbers(new String[] {"passes", "rests", "loads", "offset", "clings", "curve"}["prlogc".indexOf(kind)]);
            text.append(gap()).append(kind).append(gap()).append(number(n[0], kind));
            if (n.length == 2) {
                text.append(' ').append(gap()).append(number(n[1], 'r'));
            }
            text.append(gap()).append(';');
        }
        if (chance.nextInt(4) == 0) {
            text.setCharAt(chance.nextInt(text.length()), anyByte());
        }
        return text.toString();
    }

    private String number(int n, char kind) {
        String figures = Integer.toString(Math.abs(n) % 10000);
        String padded = chance.nextInt(6) == 0 && figures.length() < 4 ? "0" + figures : figures;
        return n < 0 && (kind == 'p' || kind == 'l') ? "-" + padded : padded;
    }

    private String gap() {
        return chance.nextInt(5) == 0 ? " ".repeat(1 + chance.nextInt(2)) : "";
    }

    private String rubbish() {
        StringBuilder text = new StringBuilder();
        int many = chance.nextInt(12);
        for (int at = 0; at < many; at++) {
            text.append(anyByte());
        }
        return text.toString();
    }

    private char anyByte() {
        return chance.nextInt(8) == 0 ? (char) chance.nextInt(128) : "prlogc--;;  0123459".charAt(chance.nextInt(19));
    }

    private void compareNumbers(String name) {
        compare(name, numbers(name));
    }

    private int[] numbers(String name) {
        switch (name) {
            case "begins": {
                int c = chance.nextInt(4) == 0 ? near(0, 99999) : chance.nextInt(1500);
                return new int[] {c, chance.nextInt(8) == 0 ? near(0, 99999) : c + chance.nextInt(1500)};
            }
            case "holds": {
                int top = (int) plain.call("told", 3);
                int h = near(0, top);
                return new int[] {near(0, Math.min(Math.max(h, 0), 99999)), h};
            }
            case "offset": return new int[] {chance.nextInt(3) == 0 ? near(0, 9) : chance.nextInt(3)};
            case "clings": return new int[] {chance.nextInt(3) == 0 ? near(0, 500) : chance.nextInt(40)};
            case "curve": return curveNumbers();
            case "passes": return new int[] {reading(), chance.nextInt(12) == 0 ? near(1, 999) : 1 + chance.nextInt(15)};
            case "rests": return new int[] {voltage()};
            case "loads": return new int[] {reading(), voltage()};
            case "told": return new int[] {near(0, 11)};
            case "volts": return new int[] {near(0, 1000)};
            case "inverse": return new int[] {voltage(), near(0, 1)};
            case "band": return new int[] {near(0, 1), near(0, 10), near(0, 1)};
            case "lasts": return new int[] {near(1, 99), near(0, 1)};
            case "under": return new int[] {reading()};
            case "setting": return new int[] {near(0, 12)};
            case "refused": return new int[] {near(0, 4)};
            default: return new int[0];
        }
    }

    private int[] curveNumbers() {
        int k = near(0, 10);
        if (k < 0 || k > 10 || chance.nextInt(6) == 0) {
            return new int[] {k, near(0, 9999)};
        }
        int from = k == 0 ? 2500 : (int) plain.call("setting", k + 1);
        int to = k == 10 ? 4500 : (int) plain.call("setting", k + 3);
        return new int[] {k, near(from, Math.max(to, from))};
    }

    private int reading() {
        return chance.nextInt(3) == 0 ? near(-99, 99) : chance.nextInt(41) - 20;
    }

    private int voltage() {
        if (chance.nextInt(6) == 0) {
            return near(0, 9999);
        }
        // near to where the gauge thinks it is, so that rests do not only clash
        int about = (int) plain.call("volts", (int) plain.call("told", 4));
        return about + chance.nextInt(301) - 150;
    }

    /** Any number from least to most, more often the edges, seldom one beyond them. */
    private int near(int least, int most) {
        switch (chance.nextInt(24)) {
            case 0: return least - 1;
            case 1: return most + 1;
            case 2: return chance.nextBoolean() ? Integer.MIN_VALUE : Integer.MAX_VALUE;
            case 3:
            case 4: return least;
            case 5:
            case 6: return most;
            default: return least + chance.nextInt(most - least + 1);
        }
    }

    private void compare(String name, int... n) {
        if (calls == CALLS) {
            return;
        }
        calls++;
        Check.due("run " + run + ", call " + calls + ": " + name + Arrays.toString(n), Calls.answer(x, name, n), plain.call(name, n));
    }
}
