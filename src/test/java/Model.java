import java.math.BigInteger;
import java.util.ArrayList;
import java.util.List;

/** What the document says, told once more as plainly and slowly as it can be, to be compared with. */
final class Model {
    private static final int UNKNOWN = -1, OUTSIDE = -2, STATE = -3, FULL = -4, NONE = -9;
    private static final long LOST = Long.MIN_VALUE;
    private static final int[][] RANGES = {{1, 5000}, {1, 2000}, {0, 2000}, {0, 5000}, {0, 5}};

    private static final class Piece {
        int first, other, kind, heat;
        int[] number = {1000, 600, 0, 0, 0};
        boolean burnt, open;
    }

    private record Read(int v, int told, int amps, int rule) {
    }

    private record Found(int u, int amps, int rule) {
    }

    private final Piece[] pieces = new Piece[4];
    private final boolean[][] relay = new boolean[4][8];
    private final List<Read> reads = new ArrayList<>();
    private final List<int[]> causes = new ArrayList<>();
    private boolean on = false;
    private int limit = 1000, leads = 0;

    private static boolean in(long v, long least, long most) {
        return least <= v && v <= most;
    }

    /** The greatest whole number that is not above up by low (low above 0). */
    private static long down(long up, long low) {
        long down = up / low;
        while (down * low > up) down--;
        while ((down + 1) * low <= up) down++;
        return down;
    }

    private boolean there(int n) {
        return in(n, 0, 3) && pieces[n] != null;
    }

    private int onlyPin(int t) {
        int pin = NONE;
        for (int p = 0; p < 8; p++) {
            if (relay[t][p]) {
                if (pin != NONE) {
                    return NONE;
                }
                pin = p;
            }
        }
        return pin;
    }

    private int hand() {
        int high = onlyPin(0);
        int low = onlyPin(1);
        if (high == NONE || low == NONE) {
            return NONE;
        }
        for (int n = 0; n < 4; n++) {
            Piece x = pieces[n];
            if (x != null && (x.first == high && x.other == low || x.first == low && x.other == high)) {
                return n;
            }
        }
        return NONE;
    }

    private boolean four() {
        return onlyPin(0) != NONE && onlyPin(1) != NONE
                && onlyPin(2) == onlyPin(0) && onlyPin(3) == onlyPin(1);
    }

    int part(int n, int first, int other, int kind) {
        if (!in(n, 0, 3) || !in(first, 0, 7) || !in(other, 0, 7)) return UNKNOWN;
        if (!in(kind, 0, 3)) return OUTSIDE;
        if (first == other || on) return STATE;
        int was = pieces[n] == null ? 0 : 1;
        pieces[n] = new Piece();
        pieces[n].first = first;
        pieces[n].other = other;
        pieces[n].kind = kind;
        return was;
    }

    int remove(int n) {
        if (!there(n)) return UNKNOWN;
        if (on) return STATE;
        pieces[n] = null;
        return 1;
    }

    int set(int n, int which, int v) {
        if (!there(n)) return UNKNOWN;
        if (!in(which, 0, 4) || !in(v, RANGES[which][0], RANGES[which][1])) return OUTSIDE;
        int was = pieces[n].number[which];
        pieces[n].number[which] = v;
        return was;
    }

    int ofPart(int n, int what) {
        if (!there(n)) return UNKNOWN;
        Piece x = pieces[n];
        int[] all = {x.first, x.other, x.kind, x.heat, x.burnt ? 1 : 0, x.open ? 1 : 0};
        return in(what, 0, 5) ? all[what] : in(what, 10, 14) ? x.number[what - 10] : OUTSIDE;
    }

    int relay(int t, int p, int v) {
        if (!in(t, 0, 3) || !in(p, 0, 7)) return UNKNOWN;
        if (!in(v, 0, 1)) return OUTSIDE;
        if (on || v == 1 && t < 2 && relay[1 - t][p]) return STATE;
        int was = relay[t][p] ? 1 : 0;
        relay[t][p] = v == 1;
        return was;
    }

    int pins(int t) {
        if (!in(t, 0, 3)) return UNKNOWN;
        int set = 0;
        for (int p = 0; p < 8; p++) set += relay[t][p] ? 1 << p : 0;
        return set;
    }

    int power(int v) {
        if (!in(v, 0, 1)) return OUTSIDE;
        if (v == 1 && hand() == NONE) return STATE;
        int was = on ? 1 : 0;
        on = v == 1;
        return was;
    }

    int limit(int v) {
        if (!in(v, 1, 20000)) return OUTSIDE;
        int was = limit;
        limit = v;
        return was;
    }

    int leads(int v) {
        if (!in(v, 0, 200)) return OUTSIDE;
        int was = leads;
        leads = v;
        return was;
    }

    int now(int what) {
        int[] all = {hand(), four() ? 4 : 2, on ? 1 : 0, limit, leads};
        return in(what, 0, 4) ? all[what] : OUTSIDE;
    }

    private static int own(Piece x, int v) {
        if (x.burnt) return 0;
        int g = x.number[0], k = x.number[1], h = x.number[2], c = x.number[4];
        long at = 0;
        if (x.kind == 0 || x.kind == 3 && x.open) at = down((long) v * g, 1000);
        if (x.kind == 1 || x.kind == 2 || x.kind == 3 && !x.open) at = down((long) v * h, 1000);
        if ((x.kind == 1 || x.kind == 2) && v > k) at += down((long) (v - k) * g, 1000);
        if (x.kind == 2 && v < -k) at += down((long) (v + k) * g, 1000);
        return (int) down(1000 * at, 1000 + c * x.heat);
    }

    int amps(int n, int v) {
        if (!there(n)) return UNKNOWN;
        return in(v, -3000, 3000) ? own(pieces[n], v) + 50000 : OUTSIDE;
    }

    private boolean firstHigh(Piece x) {
        return x.first == onlyPin(0);
    }

    private int ampsAt(Piece x, int u) {
        return firstHigh(x) ? own(x, u) : 0 - own(x, -u);
    }

    private int drop(int amps) {
        return (int) down((long) amps * leads, 1000);
    }

    /** Walks from 0 to v. */
    private Found found(Piece x, int v) {
        int way = Integer.signum(v);
        int u = 0;
        while (u != v) {
            int amps = ampsAt(x, u + way);
            if (Math.abs(amps) > limit) return new Found(u, ampsAt(x, u), 1);
            if (!four() && Math.abs(u + way + drop(amps)) > Math.abs(v)) return new Found(u, ampsAt(x, u), 2);
            u += way;
        }
        return new Found(u, ampsAt(x, u), 0);
    }

    int would(int v, int what) {
        if (!in(v, -3000, 3000) || !in(what, 0, 2)) return OUTSIDE;
        if (hand() == NONE) return STATE;
        Found f = found(pieces[hand()], v);
        return what == 0 ? f.u + 10000 : what == 1 ? f.amps + 50000 : f.rule;
    }

    /** Causes 2 and 3, if the PART became BURNT; else nothing. */
    private List<int[]> pulsed(int v, int w) {
        List<int[]> told = new ArrayList<>();
        int n = hand();
        Piece x = pieces[n];
        Found f = found(x, v);
        if (x.kind == 3 && !x.open && !x.burnt && (firstHigh(x) ? f.u : -f.u) >= x.number[1]) {
            x.open = true;
            f = found(x, v);
        }
        reads.add(new Read(v, four() ? f.u : f.u + drop(f.amps), f.amps, f.rule));
        int heat = x.heat + (int) (Math.abs((long) f.u * f.amps * w) / 500000);
        if (heat >= 1000 && !x.burnt) {
            told.add(new int[] {2, n});
            told.add(new int[] {3, heat - 999});
        }
        x.burnt |= heat >= 1000;
        x.heat = Math.min(heat, 1000);
        int ownAmps = firstHigh(x) ? f.amps : -f.amps;
        if (x.kind == 3 && x.open && ownAmps < x.number[3]) x.open = false;
        return told;
    }

    int pulse(int v, int w) {
        if (!in(v, -3000, 3000) || !in(w, 1, 50)) return OUTSIDE;
        if (!on) return STATE;
        if (reads.size() >= 60) return FULL;
        causes.clear();
        causes.addAll(pulsed(v, w));
        return reads.size();
    }

    private void cool(int n) {
        for (int i = 0; i < n; i++) {
            for (Piece x : pieces) {
                if (x != null) x.heat -= (x.heat + 15) / 16;
            }
        }
    }

    int rest(int n) {
        if (!in(n, 0, 100)) return OUTSIDE;
        cool(n);
        int most = 0;
        for (Piece x : pieces) most = x == null ? most : Math.max(most, x.heat);
        return most;
    }

    int sweep(int a, int b, int step, int w, int n, int back) {
        if (!in(a, -3000, 3000) || !in(b, -3000, 3000) || !in(step, 1, 1000) || !in(w, 1, 50)
                || !in(back, 0, 1) || !in(n, 0, 100)) return OUTSIDE;
        if (!on) return STATE;
        List<Integer> volts = new ArrayList<>();
        if (a <= b) for (int v = a; v <= b; v += step) volts.add(v);
        else for (int v = a; v >= b; v -= step) volts.add(v);
        if (back == 1) for (int i = volts.size() - 2; i >= 0; i--) volts.add(volts.get(i));
        if (reads.size() + volts.size() > 60) return FULL;
        causes.clear();
        for (int i = 0; i < volts.size(); i++) {
            List<int[]> told = pulsed(volts.get(i), w);
            if (!told.isEmpty()) {
                causes.add(new int[] {1, i});
                causes.addAll(told);
                return -100 - (i + 1);
            }
            cool(n);
        }
        return volts.size();
    }

    int why(int k, int what) {
        if (!in(k, 0, 2) || !in(what, 0, 1)) return OUTSIDE;
        return k < causes.size() ? causes.get(k)[what] : NONE;
    }

    private boolean read(int k) {
        return in(k, 0, reads.size() - 1);
    }

    int reading(int k, int what) {
        if (!read(k)) return UNKNOWN;
        Read r = reads.get(k);
        int[] all = {r.v + 10000, r.told + 10000, r.amps + 50000, r.rule};
        return in(what, 0, 3) ? all[what] : OUTSIDE;
    }

    int clear() {
        int was = reads.size();
        reads.clear();
        return was;
    }

    int knee(int a, int b) {
        if (!read(a) || !read(b)) return UNKNOWN;
        if (a > b) return OUTSIDE;
        Read ra = reads.get(a), rb = reads.get(b);
        long most = 0;
        int point = NONE;
        for (int i = a; i <= b; i++) {
            Read r = reads.get(i);
            long far = Math.abs((long) (r.told - ra.told) * (rb.amps - ra.amps)
                    - (long) (r.amps - ra.amps) * (rb.told - ra.told));
            if (far > most) {
                most = far;
                point = i;
            }
        }
        return point;
    }

    private static BigInteger[] least(BigInteger up, BigInteger low) {
        BigInteger by = up.gcd(low).multiply(BigInteger.valueOf(low.signum()));
        return new BigInteger[] {up.divide(by), low.divide(by)};
    }

    long fit(int a, int b, int what) {
        if (!read(a) || !read(b) || a > b || !in(what, 0, 5)) return LOST;
        BigInteger n = BigInteger.valueOf(b - a + 1);
        BigInteger x = BigInteger.ZERO, y = x, p = x, q = x;
        for (int i = a; i <= b; i++) {
            BigInteger xi = BigInteger.valueOf(reads.get(i).told);
            BigInteger yi = BigInteger.valueOf(reads.get(i).amps);
            x = x.add(xi);
            y = y.add(yi);
            p = p.add(xi.multiply(yi));
            q = q.add(xi.multiply(xi));
        }
        BigInteger d = n.multiply(q).subtract(x.multiply(x));
        if (d.signum() == 0) return LOST;
        BigInteger[] slope = least(n.multiply(p).subtract(x.multiply(y)), d);
        BigInteger[] base = least(y.multiply(q).subtract(x.multiply(p)), d);
        if (what < 2) return slope[what].longValueExact();
        if (what < 4) return base[what - 2].longValueExact();
        if (slope[0].signum() == 0) return LOST;
        return least(base[0].multiply(slope[1]).negate(), base[1].multiply(slope[0]))[what - 4].longValueExact();
    }

    int gap(int a, int b) {
        if (!read(a) || !read(b)) return UNKNOWN;
        if (a > b) return OUTSIDE;
        int most = 0;
        for (Read r : reads.subList(a, b + 1)) {
            for (Read s : reads.subList(a, b + 1)) {
                if (r.v == s.v) most = Math.max(most, r.amps - s.amps);
            }
        }
        return most;
    }

    int many(int what) {
        int[] all = new int[6];
        for (Piece x : pieces) {
            all[0] += x != null ? 1 : 0;
            all[3] += x != null && x.burnt ? 1 : 0;
        }
        for (Read r : reads) {
            all[1]++;
            all[4] += r.rule == 1 ? 1 : 0;
            all[5] += r.rule == 2 ? 1 : 0;
        }
        for (boolean[] row : relay) {
            for (boolean closed : row) all[2] += closed ? 1 : 0;
        }
        return in(what, 0, 5) ? all[what] : OUTSIDE;
    }
}
