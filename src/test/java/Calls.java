/** A call of the class by its name, for tests that hold calls in tables. */
final class Calls {
    private Calls() { }

    static long answer(GaugeBounds x, String name, int... n) {
        switch (name) {
            case "begins": return x.begins(n[0], n[1]);
            case "holds": return x.holds(n[0], n[1]);
            case "offset": return x.offset(n[0]);
            case "clings": return x.clings(n[0]);
            case "curve": return x.curve(n[0], n[1]);
            case "passes": return x.passes(n[0], n[1]);
            case "rests": return x.rests(n[0]);
            case "loads": return x.loads(n[0], n[1]);
            case "told": return x.told(n[0]);
            case "volts": return x.volts(n[0]);
            case "inverse": return x.inverse(n[0], n[1]);
            case "band": return x.band(n[0], n[1], n[2]);
            case "bands": return x.bands();
            case "lasts": return x.lasts(n[0], n[1]);
            case "under": return x.under(n[0]);
            case "setting": return x.setting(n[0]);
            case "type": return x.type(n[0]);
            case "clear": return x.clear();
            case "does": return x.does();
            case "back": return x.back();
            case "refused": return x.refused(n[0]);
            case "digest": return x.digest();
            default: throw new IllegalArgumentException(name);
        }
    }
}
