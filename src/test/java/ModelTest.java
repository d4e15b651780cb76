import java.util.Random;

/** Long mixed runs (promises 1 to 23 together), compared with Model; the seeds are fixed. */
public final class ModelTest {
    private static final Check check = new Check("ModelTest");
    private static final int[] EDGES = {Integer.MIN_VALUE, -3001, -3000, -1, 0, 1, 2, 3, 4, 5, 7, 8, 60,
        3000, 3001, 20000, 20001, Integer.MAX_VALUE};

    private final Random random;
    private final PartCurves x = new PartCurves();
    private final Model y = new Model();
    private final int wild;

    private ModelTest(long seed) {
        random = new Random(seed);
        wild = 10 + random.nextInt(190);
    }

    public static void main(String[] args) {
        for (int seed = 0; seed < 1200 && check.wrong() < 20; seed++) {
            new ModelTest(seed).run(seed);
        }
        check.end();
    }

    private void run(int seed) {
        for (int call = 0; call < 512 && check.wrong() < 20; call++) {
            step("seed " + seed + ", call " + call + ": ");
        }
    }

    /** Mostly a number of the range, now and then one just beside it or far off. */
    private int some(int least, int most) {
        if (random.nextInt(wild) == 0) {
            return random.nextInt(3) == 0 ? EDGES[random.nextInt(EDGES.length)]
                    : random.nextBoolean() ? least - 1 : most + 1;
        }
        int kind = random.nextInt(10);
        return kind == 0 ? least : kind == 1 ? most : least + random.nextInt(most - least + 1);
    }

    private int volts() {
        switch (random.nextInt(4)) {
            case 0: return 100 * some(-30, 30);
            case 1: return some(-700, 700);
            default: return some(-3000, 3000);
        }
    }

    private int readingNumber() {
        int count = y.many(1);
        return count == 0 ? some(0, 1) : some(0, count - 1);
    }

    private int step() {
        return y.many(1) > 40 || random.nextBoolean() ? some(100, 1000) : some(1, 1000);
    }

    private void due(String call, long want, long got, int... args) {
        StringBuilder told = new StringBuilder(call);
        for (int arg : args) {
            told.append(' ').append(arg);
        }
        check.due(told.toString(), want, got);
    }

    private void step(String at) {
        boolean on = y.now(2) == 1;
        int what = random.nextInt(100);
        if (!on && what < 70) {
            arrange(at);
        } else if (what < 12) {
            number(at);
        } else if (what < 45) {
            flow(at);
        } else if (what < 65) {
            look(at);
        } else if (what < 90) {
            find(at);
        } else {
            arrange(at);
        }
    }

    private void arrange(String at) {
        int n = some(0, 3), p = some(0, 7), q = some(0, 7), t = some(0, 3), v = some(0, 1);
        int few = random.nextBoolean() ? 3 : 7;
        switch (random.nextInt(9)) {
            case 0: case 1: case 2:
                int r = some(0, few), s = some(0, few), kind = some(0, 3);
                due(at + "part", y.part(n, r, s, kind), x.part(n, r, s, kind), n, r, s, kind);
                break;
            case 3:
                due(at + "remove", y.remove(n), x.remove(n), n);
                break;
            case 4:
                due(at + "power", y.power(v), x.power(v), v);
                break;
            case 5:
                bring(at);
                break;
            default:
                int pin = random.nextBoolean() ? p : q % 4;
                due(at + "relay", y.relay(t, pin, v), x.relay(t, pin, v), t, pin, v);
                break;
        }
    }

    /** Brings HIGH and LOW (and now and then the senses) to the pins of a PART, and puts POWER ON. */
    private void bring(String at) {
        int n = some(0, 3);
        int one = y.ofPart(n, 0), two = y.ofPart(n, 1);
        boolean turned = random.nextBoolean();
        boolean senses = random.nextBoolean();
        for (int p = 0; p < 8; p++) {
            for (int t = 0; t < 4; t++) {
                x.relay(t, p, 0);
                y.relay(t, p, 0);
            }
        }
        for (int t = 0; t < (senses ? 4 : 2); t++) {
            int pin = (t % 2 == 0) == turned ? two : one;
            due(at + "relay", y.relay(t, pin, 1), x.relay(t, pin, 1), t, pin, 1);
        }
        due(at + "power", y.power(1), x.power(1), 1);
    }

    private void number(String at) {
        int n = random.nextBoolean() ? Math.max(0, y.now(0)) : some(0, 3);
        int[] most = {5000, 2000, 2000, 5000, 5};
        switch (random.nextInt(4)) {
            case 0:
                int l = random.nextBoolean() ? some(1, 20000) : some(1, 900);
                due(at + "limit", y.limit(l), x.limit(l), l);
                break;
            case 1:
                int o = some(0, 200);
                due(at + "leads", y.leads(o), x.leads(o), o);
                break;
            default:
                int which = some(0, 4);
                int top = which >= 0 && which < 5 ? most[which] : 5;
                int v = random.nextInt(3) == 0 && top > 5 ? some(0, 300) : some(0, top);
                due(at + "set", y.set(n, which, v), x.set(n, which, v), n, which, v);
                break;
        }
    }

    private void flow(String at) {
        int v = volts(), w = some(1, 50), n = random.nextBoolean() ? some(0, 2) : some(0, 100);
        switch (random.nextInt(5)) {
            case 0:
                due(at + "rest", y.rest(n), x.rest(n), n);
                break;
            case 1:
                int b = volts(), s = step(), back = some(0, 1);
                int t = random.nextBoolean() ? some(1, 3) : w;
                due(at + "sweep", y.sweep(v, b, s, t, n, back), x.sweep(v, b, s, t, n, back), v, b, s, t, n, back);
                break;
            default:
                due(at + "pulse", y.pulse(v, w), x.pulse(v, w), v, w);
                break;
        }
    }

    private void look(String at) {
        int n = some(0, 3), v = volts(), k = readingNumber();
        switch (random.nextInt(7)) {
            case 0:
                int what = random.nextBoolean() ? some(0, 5) : some(10, 14);
                due(at + "ofPart", y.ofPart(n, what), x.ofPart(n, what), n, what);
                break;
            case 1:
                due(at + "pins", y.pins(n), x.pins(n), n);
                break;
            case 2:
                int now = some(0, 4);
                due(at + "now", y.now(now), x.now(now), now);
                break;
            case 3:
                due(at + "amps", y.amps(n, v), x.amps(n, v), n, v);
                break;
            case 4:
                int would = some(0, 2);
                due(at + "would", y.would(v, would), x.would(v, would), v, would);
                break;
            default:
                int of = some(0, 3);
                due(at + "reading", y.reading(k, of), x.reading(k, of), k, of);
                break;
        }
    }

    private void find(String at) {
        int a = readingNumber(), b = readingNumber();
        if (a > b && random.nextInt(8) != 0) {
            int c = a;
            a = b;
            b = c;
        }
        switch (random.nextInt(13)) {
            case 0: case 1:
                due(at + "knee", y.knee(a, b), x.knee(a, b), a, b);
                break;
            case 2: case 3: case 4: case 5:
                int what = some(0, 5);
                due(at + "fit", y.fit(a, b, what), x.fit(a, b, what), a, b, what);
                break;
            case 6: case 7:
                due(at + "gap", y.gap(a, b), x.gap(a, b), a, b);
                break;
            case 8: case 9:
                int many = some(0, 5);
                due(at + "many", y.many(many), x.many(many), many);
                break;
            case 10:
                if (random.nextInt(4) == 0) {
                    due(at + "clear", y.clear(), x.clear());
                }
                break;
            default:
                int k = some(0, 2), of = some(0, 1);
                due(at + "why", y.why(k, of), x.why(k, of), k, of);
                break;
        }
    }
}
