/** Curves of small parts between pins, with relays, pulses, sweeps and what is found in readings. */
public final class PartCurves {
    public static final int UNKNOWN = -1, OUTSIDE = -2, STATE = -3, FULL = -4, NONE = -9;
    public static final long LOST = Long.MIN_VALUE;

    private static final int HIGH = 0, LOW = 1, SENSE_HIGH = 2, SENSE_LOW = 3;
    private static final int TERMINALS = 4, PINS = 8, PARTS = 4;
    private static final int MOST_VOLTS = 3000, MOST_LIMIT = 20000, MOST_LEADS = 200;
    private static final int MOST_TIME = 50, MOST_RESTS = 100, MOST_STEP = 1000;
    private static final int VOLTS_MORE = 10000, AMPS_MORE = 50000;
    private static final int BURNT_IN_SWEEP = -100;

    private final Part[] parts = new Part[PARTS];
    private final int[] pinSets = new int[TERMINALS];
    private final Readings readings = new Readings();
    private final Causes causes = new Causes();
    private boolean powerOn = false;
    private int mostAmps = 1000;
    private int leadOhms = 0;

    /** No PARTS, no READINGS. */
    public PartCurves() {
        for (int n = 0; n < parts.length; n++) {
            parts[n] = new Part();
        }
    }

    // ---- 1 pins

    /** A PART comes between two PINS. */
    public int part(int n, int first, int other, int kind) {
        if (!within(n, 0, PARTS - 1) || !within(first, 0, PINS - 1) || !within(other, 0, PINS - 1)) {
            return UNKNOWN;
        }
        if (!within(kind, Part.LINE, Part.SNAP)) {
            return OUTSIDE;
        }
        if (first == other || powerOn) {
            return STATE;
        }
        int was = parts[n].there ? 1 : 0;
        parts[n].renew(first, other, kind);
        return was;
    }

    /** A PART is no more. */
    public int remove(int n) {
        Part part = partAt(n);
        if (part == null) {
            return UNKNOWN;
        }
        if (powerOn) {
            return STATE;
        }
        part.there = false;
        return 1;
    }

    /** A NUMBER of a PART becomes v. */
    public int set(int n, int which, int v) {
        Part part = partAt(n);
        if (part == null) {
            return UNKNOWN;
        }
        if (!Part.takes(which, v)) {
            return OUTSIDE;
        }
        int was = part.number(which);
        part.putNumber(which, v);
        return was;
    }

    /** What a PART is and how it is. */
    public int ofPart(int n, int what) {
        Part part = partAt(n);
        if (part == null) {
            return UNKNOWN;
        }
        if (within(what, 10, 9 + Part.NUMBERS)) {
            return part.number(what - 10);
        }
        switch (what) {
            case 0: return part.first;
            case 1: return part.other;
            case 2: return part.kind;
            case 3: return part.heat;
            case 4: return part.burnt ? 1 : 0;
            case 5: return part.open ? 1 : 0;
            default: return OUTSIDE;
        }
    }

    /** The RELAY of a TERMINAL and a PIN is closed or opened. */
    public int relay(int t, int p, int v) {
        if (!within(t, 0, TERMINALS - 1) || !within(p, 0, PINS - 1)) {
            return UNKNOWN;
        }
        if (!within(v, 0, 1)) {
            return OUTSIDE;
        }
        int pin = 1 << p;
        if (powerOn || v == 1 && wouldShort(t, pin)) {
            return STATE;
        }
        int was = (pinSets[t] & pin) != 0 ? 1 : 0;
        pinSets[t] = v == 1 ? pinSets[t] | pin : pinSets[t] & ~pin;
        return was;
    }

    /** The set of PINS to which a TERMINAL is brought. */
    public int pins(int t) {
        return within(t, 0, TERMINALS - 1) ? pinSets[t] : UNKNOWN;
    }

    /** POWER is ON or OFF. */
    public int power(int v) {
        if (!within(v, 0, 1)) {
            return OUTSIDE;
        }
        if (v == 1 && inHand() == NONE) {
            return STATE;
        }
        int was = powerOn ? 1 : 0;
        powerOn = v == 1;
        return was;
    }

    /** LIMIT becomes v. */
    public int limit(int v) {
        if (!within(v, 1, MOST_LIMIT)) {
            return OUTSIDE;
        }
        int was = mostAmps;
        mostAmps = v;
        return was;
    }

    /** LEADS become v. */
    public int leads(int v) {
        if (!within(v, 0, MOST_LEADS)) {
            return OUTSIDE;
        }
        int was = leadOhms;
        leadOhms = v;
        return was;
    }

    /** How pins, wires and power are now. */
    public int now(int what) {
        switch (what) {
            case 0: return inHand();
            case 1: return fourWires() ? 4 : 2;
            case 2: return powerOn ? 1 : 0;
            case 3: return mostAmps;
            case 4: return leadOhms;
            default: return OUTSIDE;
        }
    }

    // ---- 2 pulses

    /** OWN AMPS of a PART at OWN volts, as it is now. */
    public int amps(int n, int v) {
        Part part = partAt(n);
        if (part == null) {
            return UNKNOWN;
        }
        return isVolts(v) ? part.ownAmps(v) + AMPS_MORE : OUTSIDE;
    }

    /** What would be found for FORCED volts. */
    public int would(int v, int what) {
        if (!isVolts(v) || !within(what, 0, 2)) {
            return OUTSIDE;
        }
        Part part = partAt(inHand());
        if (part == null) {
            return STATE;
        }
        int u = farthest(part, v);
        switch (what) {
            case 0: return u + VOLTS_MORE;
            case 1: return ampsAt(part, u) + AMPS_MORE;
            default: return ruleAt(part, u, v);
        }
    }

    /** A PULSE. */
    public int pulse(int v, int w) {
        if (!isVolts(v) || !within(w, 1, MOST_TIME)) {
            return OUTSIDE;
        }
        int n = inHand();
        Part part = partAt(n);
        if (!powerOn || part == null) {
            return STATE;
        }
        if (readings.room() < 1) {
            return FULL;
        }
        causes.clearAll();
        int above = readPulse(part, v, w);
        if (above > 0) {
            tellBurnt(n, above);
        }
        return readings.count;
    }

    /** A REST: the greatest HEAT then. */
    public int rest(int n) {
        if (!within(n, 0, MOST_RESTS)) {
            return OUTSIDE;
        }
        coolAll(n);
        int greatest = 0;
        for (int i = 0; i < parts.length; i++) {
            if (parts[i].there) {
                greatest = Math.max(greatest, parts[i].heat);
            }
        }
        return greatest;
    }

    // ---- 3 sweeps

    /** A SWEEP. */
    public int sweep(int a, int b, int step, int w, int n, int back) {
        if (!isVolts(a) || !isVolts(b) || !within(step, 1, MOST_STEP) || !within(w, 1, MOST_TIME)
                || !within(back, 0, 1) || !within(n, 0, MOST_RESTS)) {
            return OUTSIDE;
        }
        int hand = inHand();
        Part part = partAt(hand);
        if (!powerOn || part == null) {
            return STATE;
        }
        int last = Math.abs(b - a) / step;
        int pulses = back == 1 ? 2 * last + 1 : last + 1;
        if (pulses > readings.room()) {
            return FULL;
        }
        causes.clearAll();
        int stepToB = b < a ? -step : step;
        for (int done = 0; done < pulses; done++) {
            int steps = done <= last ? done : 2 * last - done;
            int above = readPulse(part, a + steps * stepToB, w);
            if (above > 0) {
                causes.put(Causes.AHEAD, done);
                tellBurnt(hand, above);
                return BURNT_IN_SWEEP - (done + 1);
            }
            coolAll(n);
        }
        return pulses;
    }

    /** A cause of WHY. */
    public int why(int k, int what) {
        if (!within(k, 0, Causes.MOST - 1) || !within(what, 0, 1)) {
            return OUTSIDE;
        }
        if (k >= causes.count) {
            return NONE;
        }
        return what == 0 ? causes.sorts[k] : causes.numbers[k];
    }

    /** Of a READING. */
    public int reading(int k, int what) {
        if (!readings.has(k)) {
            return UNKNOWN;
        }
        switch (what) {
            case 0: return readings.forced[k] + VOLTS_MORE;
            case 1: return readings.told[k] + VOLTS_MORE;
            case 2: return readings.flowed[k] + AMPS_MORE;
            case 3: return readings.rules[k];
            default: return OUTSIDE;
        }
    }

    /** No READINGS. */
    public int clear() {
        int was = readings.count;
        readings.count = 0;
        return was;
    }

    // ---- 4 what is found

    /** KNEE POINT of READINGS a .. b. */
    public int knee(int a, int b) {
        if (!readings.has(a) || !readings.has(b)) {
            return UNKNOWN;
        }
        return a > b ? OUTSIDE : readings.kneePoint(a, b);
    }

    /** FIT of READINGS a .. b. */
    public long fit(int a, int b, int what) {
        if (!readings.has(a) || !readings.has(b) || a > b || !within(what, 0, 5)) {
            return LOST;
        }
        return readings.lineFitted(a, b, what);
    }

    /** GAP of READINGS a .. b. */
    public int gap(int a, int b) {
        if (!readings.has(a) || !readings.has(b)) {
            return UNKNOWN;
        }
        return a > b ? OUTSIDE : readings.greatestGap(a, b);
    }

    /** How many there are. */
    public int many(int what) {
        switch (what) {
            case 0: return partsThere(false);
            case 1: return readings.count;
            case 2: return closedRelays();
            case 3: return partsThere(true);
            case 4: return readings.withRule(1);
            case 5: return readings.withRule(2);
            default: return OUTSIDE;
        }
    }

    // ---- pins, inside

    private static boolean within(int v, int least, int most) {
        return v >= least && v <= most;
    }

    private static boolean isVolts(int v) {
        return within(v, -MOST_VOLTS, MOST_VOLTS);
    }

    /** The PART n, or null if there is none. */
    private Part partAt(int n) {
        return within(n, 0, PARTS - 1) && parts[n].there ? parts[n] : null;
    }

    private boolean wouldShort(int t, int pin) {
        return t == HIGH && (pinSets[LOW] & pin) != 0 || t == LOW && (pinSets[HIGH] & pin) != 0;
    }

    private boolean highAndLowAtOnePinEach() {
        return Integer.bitCount(pinSets[HIGH]) == 1 && Integer.bitCount(pinSets[LOW]) == 1;
    }

    private int inHand() {
        if (!highAndLowAtOnePinEach()) {
            return NONE;
        }
        for (int n = 0; n < parts.length; n++) {
            if (parts[n].there && joinsHighAndLow(parts[n])) {
                return n;
            }
        }
        return NONE;
    }

    private boolean joinsHighAndLow(Part part) {
        int first = 1 << part.first;
        int other = 1 << part.other;
        return first == pinSets[HIGH] && other == pinSets[LOW]
                || first == pinSets[LOW] && other == pinSets[HIGH];
    }

    /** "The PIN of HIGH" is one pin, so a HIGH at several pins (or none) is never sensed. */
    private boolean fourWires() {
        return highAndLowAtOnePinEach()
                && pinSets[SENSE_HIGH] == pinSets[HIGH] && pinSets[SENSE_LOW] == pinSets[LOW];
    }

    private int closedRelays() {
        int closed = 0;
        for (int t = 0; t < pinSets.length; t++) {
            closed += Integer.bitCount(pinSets[t]);
        }
        return closed;
    }

    private int partsThere(boolean burntOnly) {
        int found = 0;
        for (int n = 0; n < parts.length; n++) {
            if (parts[n].there && (parts[n].burnt || !burntOnly)) {
                found++;
            }
        }
        return found;
    }

    // ---- pulses, inside

    /** A value as the PART's FIRST PIN sees it: its sign turns, if that PIN has LOW. */
    private int owned(Part part, int value) {
        return 1 << part.first == pinSets[HIGH] ? value : -value;
    }

    private int ampsAt(Part part, int u) {
        return owned(part, part.ownAmps(owned(part, u)));
    }

    private int drop(int amps) {
        return Math.floorDiv(amps * leadOhms, 1000);
    }

    private boolean aboveLimit(Part part, int u) {
        return Math.abs(ampsAt(part, u)) > mostAmps;
    }

    private boolean allowed(Part part, int u, int v) {
        int amps = ampsAt(part, u);
        if (Math.abs(amps) > mostAmps) {
            return false;
        }
        return fourWires() || Math.abs(u + drop(amps)) <= Math.abs(v);
    }

    /**
     * The volts u for FORCED volts v. AMPS and DROP never get nearer to 0 as u goes away from 0,
     * and 0 is always allowed: so halving finds what a walk from 0 would find.
     */
    private int farthest(Part part, int v) {
        int sign = v < 0 ? -1 : 1;
        int near = 0;
        int far = Math.abs(v);
        for (int i = 0; i < 32 && near < far; i++) {
            int middle = (near + far + 1) / 2;
            if (allowed(part, sign * middle, v)) {
                near = middle;
            } else {
                far = middle - 1;
            }
        }
        return sign * near;
    }

    private int ruleAt(Part part, int u, int v) {
        if (u == v) {
            return 0;
        }
        int next = v < 0 ? u - 1 : u + 1;
        return aboveLimit(part, next) ? 1 : 2;
    }

    /** Makes a PULSE; by how much HEAT would be above 999, if the PART became BURNT by it, else 0. */
    private int readPulse(Part part, int v, int w) {
        int u = farthest(part, v);
        if (part.snapsOpenAt(owned(part, u))) {
            part.open = true;
            u = farthest(part, v);
        }
        int amps = ampsAt(part, u);
        int told = fourWires() ? u : u + drop(amps);
        readings.add(v, told, amps, ruleAt(part, u, v));
        int above = part.warm(u, amps, w);
        part.shutBelow(owned(part, amps));
        return above;
    }

    private void tellBurnt(int n, int above) {
        causes.put(Causes.PART, n);
        causes.put(Causes.ABOVE, above);
    }

    private void coolAll(int times) {
        for (int n = 0; n < parts.length; n++) {
            parts[n].cool(times);
        }
    }

    /** A PART, there or not. */
    private static final class Part {
        static final int LINE = 0, KNEE = 1, TWO_KNEES = 2, SNAP = 3;
        static final int NUMBERS = 5;
        static final int MOST_HEAT = 1000;
        private static final int[] LEAST = {1, 1, 0, 0, 0};
        private static final int[] MOST = {5000, 2000, 2000, 5000, 5};

        boolean there, burnt, open;
        int first, other, kind, heat;
        private int g, k, h, m, c;

        static boolean takes(int which, int v) {
            return which >= 0 && which < NUMBERS && v >= LEAST[which] && v <= MOST[which];
        }

        void renew(int firstPin, int otherPin, int newKind) {
            there = true;
            burnt = false;
            open = false;
            first = firstPin;
            other = otherPin;
            kind = newKind;
            heat = 0;
            g = 1000;
            k = 600;
            h = 0;
            m = 0;
            c = 0;
        }

        int number(int which) {
            switch (which) {
                case 0: return g;
                case 1: return k;
                case 2: return h;
                case 3: return m;
                default: return c;
            }
        }

        void putNumber(int which, int v) {
            switch (which) {
                case 0: g = v; break;
                case 1: k = v; break;
                case 2: h = v; break;
                case 3: m = v; break;
                default: c = v; break;
            }
        }

        int ownAmps(int v) {
            int by = 1000 + c * heat;
            if (burnt || by < 1) {
                return 0;
            }
            return Math.floorDiv(1000 * coldAmps(v), by);
        }

        private int coldAmps(int v) {
            if (kind == LINE || kind == SNAP && open) {
                return Math.floorDiv(v * g, 1000);
            }
            int x = Math.floorDiv(v * h, 1000);
            if (v > k && kind != SNAP) {
                x += Math.floorDiv((v - k) * g, 1000);
            }
            if (v < -k && kind == TWO_KNEES) {
                x += Math.floorDiv((v + k) * g, 1000);
            }
            return x;
        }

        boolean snapsOpenAt(int ownVolts) {
            return kind == SNAP && !open && !burnt && ownVolts >= k;
        }

        void shutBelow(int ownAmps) {
            if (kind == SNAP && open && ownAmps < m) {
                open = false;
            }
        }

        /** By how much HEAT would be above 999, if it became BURNT by this, else 0. */
        int warm(int volts, int amps, int time) {
            long work = Math.abs((long) volts * amps * time);
            int would = heat + (int) (work / 500000);
            heat = Math.min(would, MOST_HEAT);
            if (would < MOST_HEAT || burnt) {
                return 0;
            }
            burnt = true;
            return would - (MOST_HEAT - 1);
        }

        void cool(int times) {
            for (int i = 0; i < times; i++) {
                heat -= (heat + 15) / 16;
            }
        }
    }

    /** The READINGS, and what is found in them; its callers see to it that a .. b are there. */
    private static final class Readings {
        private static final int MOST = 60;

        final int[] forced = new int[MOST];
        final int[] told = new int[MOST];
        final int[] flowed = new int[MOST];
        final int[] rules = new int[MOST];
        int count = 0;

        boolean has(int k) {
            return k >= 0 && k < count;
        }

        int room() {
            return MOST - count;
        }

        void add(int v, int toldVolts, int amps, int rule) {
            if (room() < 1) {
                return;
            }
            forced[count] = v;
            told[count] = toldVolts;
            flowed[count] = amps;
            rules[count] = rule;
            count++;
        }

        int withRule(int rule) {
            int found = 0;
            for (int i = 0; i < count; i++) {
                if (rules[i] == rule) {
                    found++;
                }
            }
            return found;
        }

        int kneePoint(int a, int b) {
            int point = NONE;
            long farthest = 0;
            long across = told[b] - told[a];
            long up = flowed[b] - flowed[a];
            for (int i = a; i <= b; i++) {
                long far = Math.abs((told[i] - told[a]) * up - (flowed[i] - flowed[a]) * across);
                if (far > farthest) {
                    farthest = far;
                    point = i;
                }
            }
            return point;
        }

        int greatestGap(int a, int b) {
            int greatest = 0;
            for (int i = a; i < b; i++) {
                for (int j = i + 1; j <= b; j++) {
                    if (forced[i] == forced[j]) {
                        greatest = Math.max(greatest, Math.abs(flowed[i] - flowed[j]));
                    }
                }
            }
            return greatest;
        }

        long lineFitted(int a, int b, int what) {
            long points = b - a + 1;
            long x = sum(told, a, b);
            long y = sum(flowed, a, b);
            long p = sumOfProducts(told, flowed, a, b);
            long q = sumOfProducts(told, told, a, b);
            long d = points * q - x * x;
            if (d == 0) {
                return LOST;
            }
            long slope = points * p - x * y;
            long base = y * q - x * p;
            boolean upper = what % 2 == 0;
            switch (what / 2) {
                case 0: return ofFraction(slope, d, upper);
                case 1: return ofFraction(base, d, upper);
                default: return ofFraction(-base, slope, upper);
            }
        }

        private static long sum(int[] row, int a, int b) {
            long sum = 0;
            for (int i = a; i <= b; i++) {
                sum += row[i];
            }
            return sum;
        }

        private static long sumOfProducts(int[] row, int[] by, int a, int b) {
            long sum = 0;
            for (int i = a; i <= b; i++) {
                sum += (long) row[i] * by[i];
            }
            return sum;
        }

        /** The upper or the lower number of a fraction in least terms; LOST, if it is by 0. */
        private static long ofFraction(long up, long low, boolean upper) {
            long common = greatestDivisor(Math.abs(up), Math.abs(low));
            if (low == 0 || common == 0) {
                return LOST;
            }
            long signed = low < 0 ? -common : common;
            return upper ? up / signed : low / signed;
        }

        private static long greatestDivisor(long one, long two) {
            for (int i = 0; i < 1000 && two != 0; i++) {
                long left = one % two;
                one = two;
                two = left;
            }
            return one;
        }
    }

    /** The causes that WHY tells. */
    private static final class Causes {
        static final int MOST = 3;
        static final int AHEAD = 1, PART = 2, ABOVE = 3;

        final int[] sorts = new int[MOST];
        final int[] numbers = new int[MOST];
        int count = 0;

        void clearAll() {
            count = 0;
        }

        void put(int sort, int number) {
            if (count < MOST) {
                sorts[count] = sort;
                numbers[count] = number;
                count++;
            }
        }
    }
}
