import java.util.Arrays;
import java.util.List;

/**
 * Runs of calls written as rows, such as "passes(10, 20) = 820 | L = 0", on a new object each.
 * A row without an answer must not be refused. A value's name of the document stands for the
 * getter that tells it; does(p1 1;) types its text anew, text(p1 1;) types it behind what is there.
 */
final class Script {
    private static final int MOST_CALLS = 512;
    private static final List<String> TOLD = List.of("L", "H", "C", "D", "MIDDLE", "SHOWN", "DRAWN", "STEPS",
        "CLASHES", "RESTS", "a", "b");
    private static final List<String> REFUSED = List.of("BADS", "NOS", "FULLS", "BYTES", "STATES");
    private static final List<String> SETTING = List.of("OFFSET", "CLING");

    private final String sentence;
    private final GaugeBounds x = new GaugeBounds();
    private int calls = 0;

    private Script(String sentence) {
        this.sentence = sentence;
    }

    /** Runs the rows on a new object, which is handed on for more. */
    static GaugeBounds run(String sentence, String... rows) {
        Script script = new Script(sentence);
        for (String row : rows) {
            for (String step : row.split("\\|")) {
                script.step(step.trim());
            }
        }
        Check.holds(sentence + ": 512 calls at most", script.calls <= MOST_CALLS);
        return script.x;
    }

    private void step(String step) {
        int sign = step.lastIndexOf(" = ");
        String call = sign < 0 ? step : step.substring(0, sign);
        long got = answer(call);
        if (sign >= 0) {
            Check.due(sentence + ": " + call, got, number(step.substring(sign + 3)));
        } else {
            Check.holds(sentence + ": " + call + " is not refused", !isRefusal(got));
        }
    }

    private long answer(String call) {
        if (TOLD.contains(call)) {
            return made("told", TOLD.indexOf(call));
        }
        if (REFUSED.contains(call)) {
            return made("refused", REFUSED.indexOf(call));
        }
        if (SETTING.contains(call)) {
            return made("setting", SETTING.indexOf(call));
        }
        String name = call.substring(0, call.indexOf('('));
        String inside = call.substring(name.length() + 1, call.length() - 1);
        if (name.equals("text")) {
            return typed(inside);
        }
        if (name.equals("does") && !inside.isEmpty()) {
            made("clear");
            typed(inside);
            return made("does");
        }
        return made(name, numbers(inside));
    }

    private long typed(String text) {
        for (int at = 0; at < text.length(); at++) {
            made("type", text.charAt(at));
        }
        return text.length();
    }

    private long made(String name, int... n) {
        calls++;
        return Calls.answer(x, name, n);
    }

    static int[] numbers(String inside) {
        if (inside.isBlank()) {
            return new int[0];
        }
        return Arrays.stream(inside.split(",")).mapToInt(n -> number(n.trim())).toArray();
    }

    static int number(String name) {
        switch (name.trim()) {
            case "NONE": return -10000001;
            case "BAD": return -10000002;
            case "NO": return -10000003;
            case "FULL": return -10000004;
            case "MIN": return Integer.MIN_VALUE;
            case "MAX": return Integer.MAX_VALUE;
            default: return Integer.parseInt(name.trim());
        }
    }

    private static boolean isRefusal(long answer) {
        return answer == number("BAD") || answer == number("NO") || answer == number("FULL");
    }
}
