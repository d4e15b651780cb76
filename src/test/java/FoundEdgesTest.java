/** The boundaries of promises 20 to 23: which READINGS, none found, the least that is found, least terms. */
public final class FoundEdgesTest {
    private static final int UNKNOWN = Bench.UNKNOWN, OUTSIDE = Bench.OUTSIDE, NONE = Bench.NONE;
    private static final long LOST = Bench.LOST;

    private static final Check check = new Check("FoundEdgesTest");
    private static final Edge edge = new Edge(check);

    public static void main(String[] args) {
        promise20Ranges();
        promise20Order();
        promise20None();
        promise20Least();
        promise20FirstOfSeveral();
        promise20WithinAlone();
        promise20UprightAndLevel();
        promise20Far();
        promise21Ranges();
        promise21None();
        promise21LeastDivisor();
        promise21Signs();
        promise21Nothing();
        promise21LeastTerms();
        promise21Many();
        promise21ToldVolts();
        promise22Ranges();
        promise22Order();
        promise22None();
        promise22Edges();
        promise22Far();
        promise23Range();
        promise23Parts();
        promise23Readings();
        promise23Relays();
        promise23Burnt();
        check.end();
    }

    /** READINGS of these told volts and these AMPS (of the same sign, at most 5 times as many). */
    private static PartCurves points(int[]... points) {
        PartCurves x = Bench.strongLine();
        for (int[] point : points) {
            put(x, point[0], point[1]);
        }
        return x;
    }

    private static void put(PartCurves x, int v, int amps) {
        int g = 1;
        while (g < 5000 && Math.abs(Math.floorDiv(v * g, 1000)) < Math.abs(amps)) {
            g++;
        }
        x.set(0, 0, g);
        x.pulse(v, 1);
        check.due("a point at " + v, amps + 50000, x.reading(x.many(1) - 1, 2));
    }

    private static int[] at(int v, int amps) {
        return new int[] {v, amps};
    }

    // ---- 20

    private static PartCurves tenOfKnee() {
        PartCurves x = Bench.on(Bench.wired(1));
        x.sweep(0, 900, 100, 1, 0, 0);
        return x;
    }

    private static PartCurves sixty() {
        PartCurves x = Bench.on(Bench.wired(1));
        x.sweep(0, 1475, 25, 1, 0, 0);
        return x;
    }

    private static void promise20Ranges() {
        edge.range("20 a of 10", 0, 9, UNKNOWN, FoundEdgesTest::tenOfKnee, (x, v) -> x.knee(v, 9),
                (x, v, point) -> point == (v < 6 ? 6 : NONE));
        edge.range("20 b of 10", 0, 9, UNKNOWN, FoundEdgesTest::tenOfKnee, (x, v) -> x.knee(0, v),
                (x, v, point) -> point == (v > 6 ? 6 : NONE));
        edge.range("20 a of 60", 0, 59, UNKNOWN, FoundEdgesTest::sixty, (x, v) -> x.knee(v, 59),
                (x, v, point) -> point == (v < 24 ? 24 : NONE));
        edge.range("20 b of 60", 0, 59, UNKNOWN, FoundEdgesTest::sixty, (x, v) -> x.knee(0, v),
                (x, v, point) -> point == (v < 25 ? NONE : 24));
        edge.refused("20 none", UNKNOWN, PartCurves::new, new int[] {-1, 0, 1}, (x, v) -> x.knee(v, v));
        edge.refused("20 a just above b", OUTSIDE, FoundEdgesTest::tenOfKnee, new int[] {1, 5, 9},
                (x, v) -> x.knee(v, v - 1));
        edge.refused("20 a far above b", OUTSIDE, FoundEdgesTest::tenOfKnee, x -> x.knee(9, 0));
        edge.taken("20 a is b", FoundEdgesTest::tenOfKnee, new int[] {0, 1, 6, 9}, (x, v) -> x.knee(v, v),
                (x, v, point) -> point == NONE);
    }

    private static void promise20Order() {
        edge.refused("20 a ahead of OUTSIDE", UNKNOWN, FoundEdgesTest::tenOfKnee, x -> x.knee(10, 0));
        edge.refused("20 b ahead of OUTSIDE", UNKNOWN, FoundEdgesTest::tenOfKnee, x -> x.knee(0, -1));
        edge.refused("20 both ahead of OUTSIDE", UNKNOWN, FoundEdgesTest::tenOfKnee, x -> x.knee(11, 10));
    }

    private static void promise20None() {
        check.due("20 two points", NONE, points(at(1, 5), at(2, 1)).knee(0, 1));
        check.due("20 on the line", NONE, points(at(0, 0), at(1, 2), at(2, 4), at(3, 6)).knee(0, 3));
        check.due("20 all at one", NONE, points(at(7, 7), at(7, 7), at(7, 7)).knee(0, 2));
        check.due("20 there and back to one", NONE, points(at(1, 1), at(9, 1), at(9, 45), at(1, 1)).knee(0, 3));
        check.due("20 level", NONE, points(at(1, 1), at(5, 1), at(9, 1)).knee(0, 2));
        check.due("20 upright", NONE, points(at(9, 1), at(9, 20), at(9, 45)).knee(0, 2));
    }

    private static void promise20Least() {
        check.due("20 below by 1", 1, points(at(0, 0), at(1, 0), at(2, 1)).knee(0, 2));
        check.due("20 above by 1", 1, points(at(0, 0), at(1, 1), at(2, 1)).knee(0, 2));
        check.due("20 below 0", 1, points(at(0, 0), at(-1, -1), at(-2, -1)).knee(0, 2));
        check.due("20 the second by 1", 2, points(at(0, 0), at(1, 1), at(2, 1), at(3, 3)).knee(0, 3));
    }

    private static void promise20FirstOfSeveral() {
        check.due("20 both sides", 1, points(at(0, 0), at(1, 2), at(3, 2), at(4, 4)).knee(0, 3));
        check.due("20 both sides", 1, points(at(0, 0), at(2, 1), at(2, 3), at(4, 4)).knee(0, 3));
        check.due("20 one side", 1, points(at(0, 0), at(1, 2), at(2, 3), at(4, 4)).knee(0, 3));
        check.due("20 the same point", 1, points(at(0, 0), at(1, 2), at(1, 2), at(4, 4)).knee(0, 3));
        check.due("20 farther by a little", 2, points(at(0, 0), at(10, 12), at(10, 13), at(40, 40)).knee(0, 3));
        check.due("20 farther on the other side", 2, points(at(0, 0), at(10, 12), at(10, 7), at(40, 40)).knee(0, 3));
    }

    private static void promise20WithinAlone() {
        PartCurves x = points(at(1, 5), at(1, 1), at(2, 1), at(3, 3), at(4, 4), at(100, 1), at(7, 7));
        check.due("20 within", 2, x.knee(1, 3));
        check.due("20 the farthest are beyond", 2, x.knee(1, 4));
        check.due("20 to the last", 5, x.knee(1, 6));
        check.due("20 none within", NONE, x.knee(3, 4));
    }

    private static void promise20UprightAndLevel() {
        check.due("20 upright", 2, points(at(9, 1), at(10, 9), at(7, 9), at(9, 2)).knee(0, 3));
        check.due("20 level", 2, points(at(1, 3), at(5, 4), at(6, 1), at(9, 3)).knee(0, 3));
        check.due("20 back over the start", 1, points(at(5, 5), at(9, 1), at(3, 3)).knee(0, 2));
    }

    private static void promise20Far() {
        check.due("20 far off", 1, points(at(-3000, -15000), at(3000, 3), at(3000, 15000)).knee(0, 2));
        check.due("20 far off", 2, points(at(3000, 15000), at(3000, 14999 - 14), at(-3000, -3), at(-3000, -15000))
                .knee(0, 3));
    }

    // ---- 21

    private static void fit(String what, PartCurves x, long... due) {
        for (int i = 0; i < 6; i++) {
            check.due("21 " + what + ", what " + i, due[i], x.fit(0, x.many(1) - 1, i));
        }
    }

    private static void promise21Ranges() {
        edge.range("21 a of 10", 0, 9, 0, FoundEdgesTest::tenOfKnee, (x, v) -> lost(x.fit(v, 9, 0)),
                (x, v, found) -> found == (v < 9 ? 1 : 0));
        edge.range("21 b of 10", 0, 9, 0, FoundEdgesTest::tenOfKnee, (x, v) -> lost(x.fit(0, v, 0)),
                (x, v, found) -> found == (v > 0 ? 1 : 0));
        edge.refused("21 a of 60", LOST, FoundEdgesTest::sixty, new int[] {-1, 60}, (x, v) -> x.fit(v, 59, 0));
        edge.refused("21 b of 60", LOST, FoundEdgesTest::sixty, new int[] {-1, 60}, (x, v) -> x.fit(0, v, 0));
        edge.range("21 what", 0, 5, LOST, FoundEdgesTest::tenOfKnee, (x, v) -> x.fit(0, 9, v),
                (x, v, answer) -> answer != LOST);
        edge.refused("21 none", LOST, PartCurves::new, new int[] {-1, 0, 1}, (x, v) -> x.fit(v, v, 0));
        edge.refused("21 a just above b", LOST, FoundEdgesTest::tenOfKnee, new int[] {1, 9},
                (x, v) -> x.fit(v, v - 1, 0));
        edge.refused("21 a is b", LOST, FoundEdgesTest::tenOfKnee, new int[] {0, 9}, (x, v) -> x.fit(v, v, 0));
        edge.due("21 a just below b", 1, FoundEdgesTest::tenOfKnee, x -> x.fit(8, 9, 0));
    }

    /** 0, if it is LOST, else 1: so the edges of a and b are told apart from the slopes. */
    private static long lost(long answer) {
        return answer == LOST ? 0 : 1;
    }

    private static void promise21None() {
        fit("one point", points(at(5, 5)), LOST, LOST, LOST, LOST, LOST, LOST);
        fit("two of the same volts", points(at(5, 5), at(5, 7)), LOST, LOST, LOST, LOST, LOST, LOST);
        fit("one point twice", points(at(5, 5), at(5, 5)), LOST, LOST, LOST, LOST, LOST, LOST);
        fit("at 0", points(at(0, 0), at(0, 0)), LOST, LOST, LOST, LOST, LOST, LOST);
        PartCurves x = Bench.strongLine();
        for (int i = 0; i < 60; i++) {
            x.pulse(-3000, 1);
        }
        fit("60 of the same volts", x, LOST, LOST, LOST, LOST, LOST, LOST);
        fit("level", points(at(5, 5), at(6, 5)), 0, 1, 5, 1, LOST, LOST);
        fit("level at 0", points(at(5, 0), at(6, 0)), 0, 1, 0, 1, LOST, LOST);
        fit("level by chance", points(at(4, 3), at(5, 9), at(6, 3)), 0, 1, 5, 1, LOST, LOST);
    }

    private static void promise21LeastDivisor() {
        fit("volts 1 apart", points(at(5, 5), at(6, 6)), 1, 1, 0, 1, 0, 1);
        fit("volts 1 apart, far", points(at(2999, 2999), at(3000, 15000)),
                12001, 1, 2999 - 2999L * 12001, 1, 2999L * 12000, 12001);
        fit("one apart of three", points(at(5, 5), at(5, 5), at(6, 8)), 3, 1, -10, 1, 10, 3);
    }

    private static void promise21Signs() {
        fit("rising, from above", points(at(1, 2), at(2, 3)), 1, 1, 1, 1, -1, 1);
        fit("rising, from below", points(at(2, 1), at(3, 2)), 1, 1, -1, 1, 1, 1);
        fit("falling, from above", points(at(1, 3), at(2, 1)), -2, 1, 5, 1, 5, 2);
        fit("falling, from below", points(at(-2, -1), at(-1, -3)), -2, 1, -5, 1, -5, 2);
        fit("falling by 1", points(at(1, 4), at(2, 3)), -1, 1, 5, 1, 5, 1);
        fit("falling by 1, below 0", points(at(-2, -3), at(-1, -4)), -1, 1, -5, 1, -5, 1);
        fit("the other way round", points(at(2, 1), at(1, 3)), -2, 1, 5, 1, 5, 2);
        fit("over 0", points(at(-1, -1), at(2, 1)), 2, 3, -1, 3, 1, 2);
    }

    private static void promise21Nothing() {
        fit("through 0", points(at(-2, -3), at(2, 3)), 3, 2, 0, 1, 0, 1);
        fit("slope 0", points(at(1, 4), at(2, 4)), 0, 1, 4, 1, LOST, LOST);
        fit("slope 0 of 0", points(at(0, 0), at(1, 0)), 0, 1, 0, 1, LOST, LOST);
    }

    private static void promise21LeastTerms() {
        fit("2 by 4", points(at(0, 0), at(4, 2)), 1, 2, 0, 1, 0, 1);
        fit("6 by 4", points(at(0, 0), at(4, 6)), 3, 2, 0, 1, 0, 1);
        fit("prime ones", points(at(0, 0), at(7, 3)), 3, 7, 0, 1, 0, 1);
        fit("thirds", points(at(1, 1), at(4, 3)), 2, 3, 1, 3, -1, 2);
        fit("onset in least terms", points(at(2, 1), at(6, 3), at(10, 5), at(14, 9)), 13, 20, -7, 10, 14, 13);
    }

    /** Halves at 2999 and 3000: D is 900, and Y Q is beyond an int by far. */
    private static void promise21Many() {
        PartCurves x = Bench.strongLine();
        x.set(0, 0, 5000);
        x.rest(100);
        for (int i = 0; i < 60; i++) {
            if (i == 30) {
                x.set(0, 0, 4999);
            }
            x.pulse(i < 30 ? 2999 : 3000, 1);
            x.rest(100);
        }
        check.due("21 at 2999", 64995, x.reading(29, 2));
        check.due("21 at 3000", 64997, x.reading(30, 2));
        fit("60 of them", x, 2, 1, 8997, 1, -8997, 2);
        check.due("21 two of the 60", 2, x.fit(29, 30, 0));
        check.due("21 the first half", LOST, x.fit(0, 29, 0));
        check.due("21 the other half", LOST, x.fit(30, 59, 0));
    }

    private static void promise21ToldVolts() {
        PartCurves x = Bench.strongLine();
        x.limit(700);
        x.sweep(700, 900, 100, 1, 0, 0);
        fit("all told 700", x, LOST, LOST, LOST, LOST, LOST, LOST);
        x.limit(600);
        x.pulse(900, 1);
        fit("one told 600", x, 1, 1, 0, 1, 0, 1);
    }

    // ---- 22

    private static void promise22Ranges() {
        edge.range("22 a", 0, 9, UNKNOWN, FoundEdgesTest::alike, (x, v) -> x.gap(v, 9),
                (x, v, gap) -> gap == (v == 9 ? 0 : v == 0 ? 900 : 800));
        edge.range("22 b", 0, 9, UNKNOWN, FoundEdgesTest::alike, (x, v) -> x.gap(0, v),
                (x, v, gap) -> gap == (v == 9 ? 900 : v == 8 ? 500 : v == 1 ? 100 : 0));
        edge.refused("22 a of 60", UNKNOWN, FoundEdgesTest::sixty, new int[] {-1, 60}, (x, v) -> x.gap(v, 59));
        edge.refused("22 b of 60", UNKNOWN, FoundEdgesTest::sixty, new int[] {-1, 60}, (x, v) -> x.gap(0, v));
        edge.refused("22 none", UNKNOWN, PartCurves::new, new int[] {-1, 0, 1}, (x, v) -> x.gap(v, v));
        edge.refused("22 a just above b", OUTSIDE, FoundEdgesTest::alike, new int[] {1, 5, 9},
                (x, v) -> x.gap(v, v - 1));
        edge.taken("22 a is b", FoundEdgesTest::alike, new int[] {0, 5, 9}, (x, v) -> x.gap(v, v),
                (x, v, gap) -> gap == 0);
    }

    /** Ten READINGS of 1000, with 1000, 1100, 1200, 1300, 1400, 1500, 1500, 1400, 1100 and 1900 AMPS. */
    private static PartCurves alike() {
        PartCurves x = Bench.strongLine();
        for (int g : new int[] {1000, 1100, 1200, 1300, 1400, 1500, 1500, 1400, 1100, 1900}) {
            x.set(0, 0, g);
            x.pulse(1000, 1);
        }
        return x;
    }

    private static void promise22Order() {
        edge.refused("22 a ahead of OUTSIDE", UNKNOWN, FoundEdgesTest::alike, x -> x.gap(10, 0));
        edge.refused("22 b ahead of OUTSIDE", UNKNOWN, FoundEdgesTest::alike, x -> x.gap(0, -1));
        edge.refused("22 both ahead of OUTSIDE", UNKNOWN, FoundEdgesTest::alike, x -> x.gap(11, 10));
    }

    private static void promise22None() {
        check.due("22 one", 0, points(at(5, 5)).gap(0, 0));
        check.due("22 1 apart in volts", 0, points(at(5, 5), at(6, 30)).gap(0, 1));
        check.due("22 the other sign", 0, points(at(5, 5), at(-5, -25)).gap(0, 1));
        check.due("22 alike in all", 0, points(at(5, 5), at(5, 5)).gap(0, 1));
        check.due("22 by 1", 1, points(at(5, 5), at(5, 6)).gap(0, 1));
        check.due("22 by 1, falling", 1, points(at(5, 6), at(5, 5)).gap(0, 1));
        check.due("22 below 0", 2, points(at(-5, -6), at(-5, -4)).gap(0, 1));
    }

    private static void promise22Edges() {
        PartCurves x = points(at(5, 1), at(5, 4), at(9, 9), at(5, 6), at(9, 8), at(5, 25));
        check.due("22 first and last", 24, x.gap(0, 5));
        check.due("22 but the first", 21, x.gap(1, 5));
        check.due("22 but the last", 5, x.gap(0, 4));
        check.due("22 neither", 2, x.gap(1, 4));
        check.due("22 none alike in the middle", 0, x.gap(2, 3));
        check.due("22 across another", 1, x.gap(2, 4));
        x = points(at(5, 25), at(9, 9), at(5, 1), at(5, 13));
        check.due("22 the greatest is first", 24, x.gap(0, 3));
    }

    private static void promise22Far() {
        check.due("22 far apart", 14997, points(at(3000, 15000), at(3000, 3)).gap(0, 1));
        check.due("22 far apart", 14997, points(at(-3000, -3), at(-3000, -15000)).gap(0, 1));
        PartCurves x = Bench.strongLine();
        x.pulse(2, 1);
        x.sweep(10, 67, 1, 1, 0, 0);
        x.set(0, 0, 5000);
        x.pulse(2, 1);
        check.due("22 60 readings", 60, x.many(1));
        check.due("22 the first and the 60th", 8, x.gap(0, 59));
        check.due("22 but the 60th", 0, x.gap(0, 58));
        check.due("22 but the first", 0, x.gap(1, 59));
    }

    // ---- 23

    private static void promise23Range() {
        int[] due = {3, 10, 2, 1, 0, 10};
        edge.range("23 what", 0, 5, OUTSIDE, Bench::busy, (x, v) -> x.many(v), (x, v, count) -> count == due[v]);
        edge.range("23 what, at first", 0, 5, OUTSIDE, PartCurves::new, (x, v) -> x.many(v),
                (x, v, count) -> count == 0);
    }

    private static void promise23Parts() {
        PartCurves x = new PartCurves();
        for (int n = 3; n >= 0; n--) {
            x.part(n, 0, 1, n);
            check.due("23 parts", 4 - n, x.many(0));
            x.part(n, 0, 2, n);
            check.due("23 parts, one in place of one", 4 - n, x.many(0));
        }
        x.part(4, 0, 1, 0);
        check.due("23 never five", 4, x.many(0));
        for (int n = 0; n < 4; n++) {
            x.remove(n);
            check.due("23 parts", 3 - n, x.many(0));
        }
    }

    private static void promise23Readings() {
        PartCurves x = Bench.strongLine();
        x.sweep(0, 58, 1, 1, 0, 0);
        check.due("23 59", 59, x.many(1));
        x.limit(1);
        x.pulse(2, 1);
        check.due("23 60", 60, x.many(1));
        check.due("23 rule 1 of the 60th", 1, x.many(4));
        check.due("23 no rule 2", 0, x.many(5));
        x.pulse(2, 1);
        check.due("23 never 61", 60, x.many(1));
        check.due("23 a refused one has no rule", 1, x.many(4));
        x.clear();
        check.due("23 none", 0, x.many(4));
        x.limit(1000);
        x.leads(200);
        x.pulse(1200, 1);
        x.pulse(1201, 1);
        check.due("23 rule 1 of both", 2, x.many(4));
        x.pulse(1199, 1);
        check.due("23 rule 2", 1, x.many(5));
        x.pulse(4, 1);
        check.due("23 rule 0 is neither", 3, x.many(4) + x.many(5));
    }

    private static void promise23Relays() {
        PartCurves x = new PartCurves();
        int closed = 0;
        for (int p = 0; p < 8; p++) {
            for (int t = 0; t < 4; t++) {
                closed += x.relay(t, p, 1) == 0 ? 1 : 0;
                check.due("23 relays", closed, x.many(2));
                x.relay(t, p, 1);
                check.due("23 relays, closed again", closed, x.many(2));
            }
        }
        check.due("23 the most", 24, closed);
        x.relay(3, 7, 0);
        check.due("23 one less", 23, x.many(2));
    }

    private static void promise23Burnt() {
        PartCurves x = new PartCurves();
        x.limit(20000);
        for (int n = 0; n < 4; n++) {
            x.part(n, n, 7, 0);
            x.set(n, 0, 5000);
            Bench.on(Bench.bring(x, n, 7)).pulse(3000, 50);
            check.due("23 burnt", n + 1, x.many(3));
            x.power(0);
        }
        x.rest(100);
        check.due("23 burnt and cold", 4, x.many(3));
        x.part(0, 0, 7, 0);
        check.due("23 a new one in place", 3, x.many(3));
        x.remove(3);
        check.due("23 one is gone", 2, x.many(3));
        x.part(3, 0, 7, 0);
        check.due("23 a new one", 2, x.many(3));
    }
}
