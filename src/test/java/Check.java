/** Compares answers with those that are due, and ends a test. */
final class Check {
    private static int wrong = 0;
    private static int looked = 0;

    private Check() { }

    static void due(String call, long got, long want) {
        looked++;
        if (got != want) {
            wrong++;
            System.out.println(call + " answered " + got + ", due is " + want);
        }
    }

    static void holds(String what, boolean so) {
        due(what, so ? 1 : 0, 1);
    }

    /** Types a text, which must find room. */
    static void type(GaugeBounds x, String text) {
        for (int at = 0; at < text.length(); at++) {
            x.type(text.charAt(at));
        }
    }

    /** Does a text that is typed anew. */
    static int does(GaugeBounds x, String text) {
        x.clear();
        type(x, text);
        return x.does();
    }

    /** All that a STATE holds, as the getters tell it. */
    static long[] state(GaugeBounds x) {
        long[] all = new long[12 + 13 + 44];
        for (int what = 0; what < 12; what++) {
            all[what] = x.told(what);
        }
        for (int what = 0; what < 13; what++) {
            all[12 + what] = x.setting(what);
        }
        for (int at = 0; at < 44; at++) {
            all[25 + at] = x.band(at / 22, at / 2 % 11, at % 2);
        }
        return all;
    }

    static void same(String when, long[] got, long[] want) {
        for (int at = 0; at < want.length; at++) {
            due(when + ", value " + at, got[at], want[at]);
        }
    }

    static boolean anyWrong() {
        return wrong != 0;
    }

    static void end(String test) {
        System.out.println(test + ": " + looked + " looked at, " + wrong + " wrong");
        if (wrong != 0) {
            System.exit(1);
        }
    }
}
