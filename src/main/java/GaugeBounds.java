/** A gauge of a battery that tells between what bounds its charge and its capacity lie. */
public final class GaugeBounds {
    public static final int NONE = -10000001, BAD = -10000002, NO = -10000003, FULL = -10000004;

    private static final int FAULT_BASE = -10;
    private static final int ENDING_BASE = -1000;

    private static final int DIGEST_SEED = 1690;
    private static final int DIGEST_FACTOR = 31;
    private static final int REFUSED_KINDS = 5;
    private static final int TOLD_KINDS = 12;
    private static final int SETTING_KINDS = 13;
    private static final int DIGEST_LOADS = 3;

    private final Battery battery;
    private final States states;
    private final Text text;
    private int timesBad;
    private int timesNo;
    private int timesFull;

    public GaugeBounds() {
        battery = new Battery();
        states = new States();
        text = new Text();
    }

    // ---- what is told in

    public int begins(int c, int d) {
        states.mark(battery);
        return settled(battery.begin(c, d));
    }

    public int holds(int l, int h) {
        states.mark(battery);
        return settled(battery.hold(l, h));
    }

    public int offset(int n) {
        states.mark(battery);
        return settled(battery.putOffset(n));
    }

    public int clings(int n) {
        states.mark(battery);
        return settled(battery.putCling(n));
    }

    public int curve(int k, int v) {
        states.mark(battery);
        return settled(battery.putPoint(k, v));
    }

    public int passes(int i, int n) {
        states.mark(battery);
        return settled(battery.pass(i, n));
    }

    public int rests(int v) {
        states.mark(battery);
        return settled(battery.rest(v));
    }

    public int loads(int i, int v) {
        states.mark(battery);
        return settled(battery.load(i, v));
    }

    // ---- what is told

    public int told(int what) {
        if (!within(what, 0, TOLD_KINDS - 1)) {
            return counted(BAD);
        }
        // Not judged by the answer: DRAWN has no bound and may be a refusal's number.
        return battery.tell(what);
    }

    public int volts(int p) {
        return counted(battery.restVoltage(p));
    }

    public int inverse(int v, int what) {
        return counted(battery.restBound(v, what));
    }

    public int band(int sign, int tenth, int what) {
        return counted(battery.tellBand(sign, tenth, what));
    }

    public int bands() {
        return battery.usedBands();
    }

    public int lasts(int i, int what) {
        return counted(battery.lasting(i, what));
    }

    public int under(int i) {
        return counted(battery.loadedVoltage(i));
    }

    public int setting(int what) {
        return counted(battery.tellSetting(what));
    }

    // ---- texts

    public int type(int c) {
        return counted(text.append(c));
    }

    public int clear() {
        return text.empty();
    }

    public int does() {
        if (!text.read()) {
            return FAULT_BASE - text.place();
        }
        states.mark(battery);
        for (int number = 0; number < text.orders(); number++) {
            if (isRefusal(obey(number))) {
                // orders ahead of this one have been done already
                states.restoreMarked(battery);
                return ENDING_BASE - number;
            }
        }
        states.keepMarked();
        return text.orders();
    }

    public int back() {
        if (states.size() == 0) {
            return counted(NO);
        }
        states.takeBack(battery);
        return states.size();
    }

    public int refused(int what) {
        switch (what) {
            case 0: return timesBad;
            case 1: return timesNo;
            case 2: return timesFull;
            case 3: return text.length();
            case 4: return states.size();
            default: return counted(BAD);
        }
    }

    public long digest() {
        long h = DIGEST_SEED;
        for (int what = 0; what < REFUSED_KINDS; what++) {
            h = DIGEST_FACTOR * h + refused(what);
        }
        for (int what = 0; what < TOLD_KINDS; what++) {
            h = DIGEST_FACTOR * h + told(what);
        }
        for (int what = 0; what < SETTING_KINDS; what++) {
            h = DIGEST_FACTOR * h + setting(what);
        }
        h = DIGEST_FACTOR * h + bands();
        for (int sign = 0; sign < Bands.SIGNS; sign++) {
            for (int tenth = 0; tenth < Bands.TENTHS; tenth++) {
                h = DIGEST_FACTOR * h + band(sign, tenth, 0);
                h = DIGEST_FACTOR * h + band(sign, tenth, 1);
            }
        }
        for (int i = 1; i <= DIGEST_LOADS; i++) {
            h = DIGEST_FACTOR * h + lasts(i, 0);
            h = DIGEST_FACTOR * h + lasts(i, 1);
        }
        return h;
    }

    /** Keeps the marked state, unless the call that answers so is refused. */
    private int settled(int answer) {
        if (!isRefusal(answer)) {
            states.keepMarked();
        }
        return counted(answer);
    }

    /** Counts a refusal; only for answers that isRefusal can tell from one. */
    private int counted(int answer) {
        if (answer == BAD) {
            timesBad++;
        } else if (answer == NO) {
            timesNo++;
        } else if (answer == FULL) {
            timesFull++;
        }
        return answer;
    }

    private int obey(int number) {
        int first = text.firstOf(number);
        int second = text.secondOf(number);
        switch (text.kindOf(number)) {
            case 'p': return battery.pass(first, second);
            case 'r': return battery.rest(first);
            case 'l': return battery.load(first, second);
            case 'o': return battery.putOffset(first);
            case 'g': return battery.putCling(first);
            case 'c': return battery.putPoint(first, second);
            default: return BAD;
        }
    }

    // The answer itself tells: but for NONE, none that is due lies below -999900, the least
    // r of a LOAD. DRAWN alone may, so told does not ask here.
    private static boolean isRefusal(int answer) {
        return answer == BAD || answer == NO || answer == FULL;
    }

    private static boolean within(int number, int least, int most) {
        return number >= least && number <= most;
    }

    /** The rest voltages at 0, 10, 20, .. 100 of a hundred, and what lies between them. */
    private static final class Curve {
        static final int POINTS = 11;
        static final int WHOLE = 1000;
        static final int MOST_VOLTS = 9999;
        private static final int STRETCH = 100;
        private static final int FIRST_VOLTS = 3000;
        private static final int FIRST_RISE = 100;
        // halved down to 1, such steps add up to more than the places 0 to WHOLE
        private static final int WIDEST_STEP = 512;

        private final int[] points;

        Curve() {
            points = new int[POINTS];
            for (int k = 0; k < POINTS; k++) {
                points[k] = FIRST_VOLTS + FIRST_RISE * k;
            }
        }

        void copyFrom(Curve other) {
            System.arraycopy(other.points, 0, points, 0, POINTS);
        }

        int point(int k) {
            return within(k, 0, POINTS - 1) ? points[k] : BAD;
        }

        int putPoint(int k, int v) {
            if (!within(k, 0, POINTS - 1) || !within(v, 0, MOST_VOLTS)) {
                return BAD;
            }
            if ((k > 0 && points[k - 1] >= v) || (k < POINTS - 1 && points[k + 1] <= v)) {
                return NO;
            }
            int was = points[k];
            points[k] = v;
            return was;
        }

        int voltsAt(int p) {
            if (p < 0 || p > WHOLE) {
                return BAD;
            }
            int k = p == WHOLE ? POINTS - 2 : p / STRETCH;
            return points[k] + (points[k + 1] - points[k]) * (p - STRETCH * k) / STRETCH;
        }

        /** The least place whose voltage is no less than v, or NONE. */
        int leastReaching(int v) {
            int place = placesBelow(v);
            return place > WHOLE ? NONE : place;
        }

        /** The greatest place whose voltage is no more than v, or NONE. */
        int greatestWithin(int v) {
            int places = placesBelow(v + 1);
            return places == 0 ? NONE : places - 1;
        }

        // As the curve never falls, the places below a voltage are the first ones.
        private int placesBelow(int v) {
            int places = 0;
            for (int step = WIDEST_STEP; step > 0; step /= 2) {
                int tried = places + step;
                if (tried <= WHOLE + 1 && voltsAt(tried - 1) < v) {
                    places = tried;
                }
            }
            return places;
        }
    }

    /** Inner resistance by bands of charge, drawn and charged apart. */
    private static final class Bands {
        static final int SIGNS = 2;
        static final int TENTHS = 11;

        // many loads told by texts add up to more than an int holds
        private final long[] sums;
        private final int[] counts;

        Bands() {
            sums = new long[SIGNS * TENTHS];
            counts = new int[SIGNS * TENTHS];
        }

        void copyFrom(Bands other) {
            System.arraycopy(other.sums, 0, sums, 0, SIGNS * TENTHS);
            System.arraycopy(other.counts, 0, counts, 0, SIGNS * TENTHS);
        }

        void forget() {
            for (int at = 0; at < SIGNS * TENTHS; at++) {
                sums[at] = 0;
                counts[at] = 0;
            }
        }

        void add(int sign, int tenth, int r) {
            if (isBand(sign, tenth)) {
                int at = sign * TENTHS + tenth;
                sums[at] += r;
                counts[at]++;
            }
        }

        int resistance(int sign, int tenth) {
            if (!isBand(sign, tenth)) {
                return BAD;
            }
            int at = sign * TENTHS + tenth;
            return counts[at] == 0 ? NONE : (int) (sums[at] / counts[at]);
        }

        int howMany(int sign, int tenth) {
            return isBand(sign, tenth) ? counts[sign * TENTHS + tenth] : BAD;
        }

        int used() {
            int used = 0;
            for (int at = 0; at < SIGNS * TENTHS; at++) {
                if (counts[at] != 0) {
                    used++;
                }
            }
            return used;
        }

        private static boolean isBand(int sign, int tenth) {
            return within(sign, 0, SIGNS - 1) && within(tenth, 0, TENTHS - 1);
        }
    }

    /** All that a STATE holds. Its calls answer BAD or NO, changing nothing, where they refuse. */
    private static final class Battery {
        private static final int MOST_CHARGE = 99999;
        private static final int MOST_OFFSET = 9;
        private static final int MOST_CLING = 500;
        private static final int MOST_READING = 99;
        private static final int MOST_STEPS = 999;
        private static final int FULLY_SHOWN = 100;
        private static final int WHOLE = Curve.WHOLE;

        private final Curve curve;
        private final Bands bands;
        private int low;
        private int high;
        private int leastCapacity;
        private int mostCapacity;
        private int offset;
        private int cling;
        private int drawn;
        private int steps;
        private int rests;
        private int lastA;
        private int lastB;
        private int clashes;
        private int shown;

        Battery() {
            curve = new Curve();
            bands = new Bands();
            high = 1000;
            leastCapacity = 500;
            mostCapacity = 1000;
            offset = 1;
            cling = 10;
            lastA = NONE;
            lastB = NONE;
            shown = FULLY_SHOWN;
        }

        void copyFrom(Battery other) {
            curve.copyFrom(other.curve);
            bands.copyFrom(other.bands);
            low = other.low;
            high = other.high;
            leastCapacity = other.leastCapacity;
            mostCapacity = other.mostCapacity;
            offset = other.offset;
            cling = other.cling;
            drawn = other.drawn;
            steps = other.steps;
            rests = other.rests;
            lastA = other.lastA;
            lastB = other.lastB;
            clashes = other.clashes;
            shown = other.shown;
        }

        int begin(int c, int d) {
            if (!isRange(c, d)) {
                return BAD;
            }
            int was = leastCapacity;
            leastCapacity = c;
            mostCapacity = d;
            low = 0;
            high = d;
            drawn = 0;
            steps = 0;
            rests = 0;
            lastA = NONE;
            lastB = NONE;
            clashes = 0;
            shown = FULLY_SHOWN;
            bands.forget();
            return was;
        }

        int hold(int l, int h) {
            if (!isRange(l, h) || h > mostCapacity) {
                return BAD;
            }
            int was = high;
            low = l;
            high = h;
            return was;
        }

        int putOffset(int n) {
            if (!within(n, 0, MOST_OFFSET)) {
                return BAD;
            }
            int was = offset;
            offset = n;
            return was;
        }

        int putCling(int n) {
            if (!within(n, 0, MOST_CLING)) {
                return BAD;
            }
            int was = cling;
            cling = n;
            return was;
        }

        int putPoint(int k, int v) {
            return curve.putPoint(k, v);
        }

        int pass(int i, int n) {
            if (!within(i, -MOST_READING, MOST_READING) || !within(n, 1, MOST_STEPS)) {
                return BAD;
            }
            int newLow = Math.max(low - n * (i + offset), 0);
            int newHigh = Math.min(high - n * (i - offset), mostCapacity);
            if (newHigh < 0 || newLow > mostCapacity || newLow > newHigh) {
                return NO;
            }
            low = newLow;
            high = newHigh;
            drawn += n * i;
            steps += n;
            showPassing(i, n);
            showEmpty();
            return high - low;
        }

        private void showPassing(int i, int n) {
            int aim = middle() / 10;
            if (i > 0) {
                shown = Math.min(shown, Math.max(shown - n, aim));
            } else if (i < 0) {
                shown = Math.max(shown, Math.min(shown + n, aim));
            }
        }

        private void showEmpty() {
            if (high == 0) {
                shown = 0;
            }
        }

        int rest(int v) {
            if (!isVoltage(v)) {
                return BAD;
            }
            int a = restBound(v, 0);
            int b = restBound(v, 1);
            if (a == NONE || b == NONE) {
                return NO;
            }
            if (rests > 0) {
                learnCapacity(a, b);
            }
            narrowCharge(a, b);
            high = Math.min(high, mostCapacity);
            low = Math.min(low, mostCapacity);
            drawn = 0;
            steps = 0;
            lastA = a;
            lastB = b;
            rests++;
            showEmpty();
            return high - low;
        }

        private void learnCapacity(int a, int b) {
            long leastDrawn = drawn - (long) offset * steps;
            long mostDrawn = drawn + (long) offset * steps;
            long c = leastCapacity;
            long d = mostCapacity;
            if (leastDrawn > 0 && lastB - a > 0) {
                c = Math.max(c, WHOLE * leastDrawn / (lastB - a));
            }
            if (mostDrawn > 0 && lastA - b > 0) {
                int between = lastA - b;
                d = Math.min(d, (WHOLE * mostDrawn + between - 1) / between);
            }
            if (c > d) {
                clashes++;
                return;
            }
            leastCapacity = (int) c;
            mostCapacity = (int) d;
        }

        private void narrowCharge(int a, int b) {
            int l = Math.max(low, a * leastCapacity / WHOLE);
            int h = Math.min(high, (b * mostCapacity + WHOLE - 1) / WHOLE);
            if (l > h) {
                clashes++;
                return;
            }
            low = l;
            high = h;
        }

        int load(int i, int v) {
            if (!isLoad(i) || !isVoltage(v)) {
                return BAD;
            }
            int middle = middle();
            int r = 100 * (curve.voltsAt(middle) - v) / i;
            bands.add(signOf(i), tenthOf(middle), r);
            return r;
        }

        int tell(int what) {
            switch (what) {
                case 0: return low;
                case 1: return high;
                case 2: return leastCapacity;
                case 3: return mostCapacity;
                case 4: return middle();
                case 5: return shown;
                case 6: return drawn;
                case 7: return steps;
                case 8: return clashes;
                case 9: return rests;
                case 10: return lastA;
                case 11: return lastB;
                default: return BAD;
            }
        }

        int restVoltage(int p) {
            return curve.voltsAt(p);
        }

        int restBound(int v, int what) {
            if (!isVoltage(v) || !within(what, 0, 1)) {
                return BAD;
            }
            int a = curve.leastReaching(v - cling);
            int b = curve.greatestWithin(v + cling);
            if (a == NONE || b == NONE) {
                return what == 0 ? a : b;
            }
            return what == 0 ? Math.min(a, b) : Math.max(a, b);
        }

        int tellBand(int sign, int tenth, int what) {
            if (!within(what, 0, 1)) {
                return BAD;
            }
            return what == 0 ? bands.resistance(sign, tenth) : bands.howMany(sign, tenth);
        }

        int usedBands() {
            return bands.used();
        }

        int lasting(int i, int what) {
            if (!within(i, 1, MOST_READING) || !within(what, 0, 1)) {
                return BAD;
            }
            if (what == 0) {
                return low / (i + offset);
            }
            return i <= offset ? NONE : high / (i - offset);
        }

        int loadedVoltage(int i) {
            if (!isLoad(i)) {
                return BAD;
            }
            int middle = middle();
            int resistance = bands.resistance(signOf(i), tenthOf(middle));
            if (resistance == NONE) {
                return NO;
            }
            return curve.voltsAt(middle) - i * resistance / 100;
        }

        int tellSetting(int what) {
            switch (what) {
                case 0: return offset;
                case 1: return cling;
                default: return within(what, 2, Curve.POINTS + 1) ? curve.point(what - 2) : BAD;
            }
        }

        private int middle() {
            int capacities = leastCapacity + mostCapacity;
            if (capacities <= 0) {
                return 0;
            }
            return Math.min(WHOLE * (low + high) / capacities, WHOLE);
        }

        private static int signOf(int i) {
            return i > 0 ? 0 : 1;
        }

        private static int tenthOf(int middle) {
            return middle / 100;
        }

        private static boolean isLoad(int i) {
            return i != 0 && within(i, -MOST_READING, MOST_READING);
        }

        private static boolean isVoltage(int v) {
            return within(v, 0, Curve.MOST_VOLTS);
        }

        private static boolean isRange(int least, int most) {
            return within(least, 0, MOST_CHARGE) && within(most, 0, MOST_CHARGE) && least <= most;
        }
    }

    /** The states to go back to: a ring with one place more, for the one that is marked only. */
    private static final class States {
        private static final int MOST = 5;
        private static final int PLACES = MOST + 1;

        private final Battery[] ring;
        private int marked;
        private int size;

        States() {
            ring = new Battery[PLACES];
            for (int at = 0; at < PLACES; at++) {
                ring[at] = new Battery();
            }
        }

        int size() {
            return size;
        }

        void mark(Battery battery) {
            ring[marked].copyFrom(battery);
        }

        void restoreMarked(Battery battery) {
            battery.copyFrom(ring[marked]);
        }

        void keepMarked() {
            marked = (marked + 1) % PLACES;
            size = Math.min(size + 1, MOST);
        }

        void takeBack(Battery battery) {
            if (size > 0) {
                marked = (marked + PLACES - 1) % PLACES;
                size--;
                restoreMarked(battery);
            }
        }
    }

    /** THE TEXT, and the orders read from it. Where reading stops at a fault, its place is the fault's. */
    private static final class Text {
        private static final int ROOM = 120;
        private static final int LAST_BYTE = 127;
        // the shortest order has three bytes: r0;
        private static final int MOST_ORDERS = ROOM / 3;
        private static final int MOST_FIGURES = 4;

        private final byte[] bytes;
        private int length;
        private final int[] kinds;
        private final int[] firsts;
        private final int[] seconds;
        private int orders;
        private int place;
        private int number;

        Text() {
            bytes = new byte[ROOM];
            kinds = new int[MOST_ORDERS];
            firsts = new int[MOST_ORDERS];
            seconds = new int[MOST_ORDERS];
        }

        int length() {
            return length;
        }

        int append(int c) {
            if (!within(c, 0, LAST_BYTE)) {
                return BAD;
            }
            if (length >= ROOM) {
                return FULL;
            }
            bytes[length] = (byte) c;
            length++;
            return length;
        }

        int empty() {
            int had = length;
            length = 0;
            return had;
        }

        int orders() {
            return orders;
        }

        int place() {
            return place;
        }

        int kindOf(int order) {
            return within(order, 0, orders - 1) ? kinds[order] : 0;
        }

        int firstOf(int order) {
            return within(order, 0, orders - 1) ? firsts[order] : 0;
        }

        int secondOf(int order) {
            return within(order, 0, orders - 1) ? seconds[order] : 0;
        }

        boolean read() {
            place = 0;
            orders = 0;
            skipBlanks();
            for (int round = 0; round < MOST_ORDERS && place < length; round++) {
                if (!readOrder()) {
                    return false;
                }
                skipBlanks();
            }
            return orders > 0 && place >= length;
        }

        private boolean readOrder() {
            int kind = here();
            if (!isKind(kind) || orders >= MOST_ORDERS) {
                return false;
            }
            place++;
            if (!readNumber(kind == 'p' || kind == 'l')) {
                return false;
            }
            int first = number;
            if (hasSecond(kind) && !readNumber(false)) {
                return false;
            }
            skipBlanks();
            if (here() != ';') {
                return false;
            }
            place++;
            kinds[orders] = kind;
            firsts[orders] = first;
            seconds[orders] = number;
            orders++;
            return true;
        }

        private boolean readNumber(boolean signed) {
            skipBlanks();
            boolean negative = signed && here() == '-';
            if (negative) {
                place++;
            }
            if (!isFigure(here())) {
                return false;
            }
            int value = 0;
            for (int figures = 0; figures < MOST_FIGURES && isFigure(here()); figures++) {
                value = 10 * value + here() - '0';
                place++;
            }
            number = negative ? -value : value;
            return !isFigure(here());
        }

        private void skipBlanks() {
            while (place < length && here() == ' ') {
                place++;
            }
        }

        /** The byte at the place; behind the text's end one that can stand nowhere. */
        private int here() {
            return place < length ? bytes[place] : -1;
        }

        private static boolean isKind(int kind) {
            return kind == 'r' || kind == 'o' || kind == 'g' || hasSecond(kind);
        }

        private static boolean hasSecond(int kind) {
            return kind == 'p' || kind == 'l' || kind == 'c';
        }

        private static boolean isFigure(int sign) {
            return sign >= '0' && sign <= '9';
        }
    }
}
