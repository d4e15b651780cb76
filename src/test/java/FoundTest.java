/** Promises 20 to 23. */
public final class FoundTest {
    private static final Check check = new Check("FoundTest");

    public static void main(String[] args) {
        promise20Knee();
        promise20ByHand();
        promise20FirstOfSeveral();
        promise20None();
        promise20Refused();
        promise21Lines();
        promise21LeastTerms();
        promise21Falling();
        promise21Told();
        promise21None();
        promise21Refused();
        promise22Gap();
        promise22ForcedVolts();
        promise22Refused();
        promise23Many();
        promise23Rules();
        check.end();
    }

    private static void promise20Knee() {
        PartCurves x = Bench.on(Bench.wired(1));
        x.sweep(0, 1000, 200, 1, 0, 1);
        check.due("20 there", 3, x.knee(0, 5));
        check.due("20 back", 7, x.knee(5, 10));
        check.due("20 in part", 3, x.knee(2, 4));
        check.due("20 three", 3, x.knee(1, 4));
        check.due("20 last", 10, x.many(1) - 1);
        PartCurves y = Bench.on(Bench.turned(1));
        y.sweep(0, -1000, 200, 1, 0, 0);
        check.due("20 below 0", 3, y.knee(0, 5));
    }

    private static void put(PartCurves x, int v, int g) {
        x.set(0, 0, g);
        x.pulse(v, 1);
    }

    private static void promise20ByHand() {
        PartCurves x = Bench.on(Bench.wired(1));
        x.set(0, 1, 1);
        x.sweep(0, 2, 1, 1, 0, 0);
        check.due("20 as near as can be", 1, x.knee(0, 2));
        x = Bench.on(Bench.wired(0));
        x.limit(300);
        put(x, 900, 3000);
        x.limit(20000);
        put(x, 200, 2000);
        put(x, 300, 1000);
        put(x, 400, 2600);
        put(x, 500, 2000);
        // (100, 300) (200, 400) (300, 300) (400, 1040) (500, 1000): 30000, 140000, 86000
        check.due("20 points by hand", 2, x.knee(0, 4));
        x.clear();
        x.limit(300);
        put(x, 900, 3000);
        x.limit(20000);
        put(x, 130, 5000);
        put(x, 400, 2000);
        put(x, 500, 2000);
        // (100, 300) (130, 650) (400, 800) (500, 1000): 119000, 10000
        check.due("20 points by hand", 1, x.knee(0, 3));
        x.clear();
        x.limit(1000);
        put(x, 1000, 1000);
        put(x, 1000, 10);
        put(x, 100, 10);
        put(x, 10, 1000);
        // (1000, 1000) (1000, 10) (100, 1) (10, 10): 980100, 89100 - 1
        check.due("20 a corner", 1, x.knee(0, 3));
    }

    private static void promise20FirstOfSeveral() {
        PartCurves x = Bench.on(Bench.wired(2));
        x.sweep(-1000, 1000, 100, 1, 0, 0);
        check.due("20 two as far", 4, x.knee(0, 20));
        check.due("20 the second alone", 16, x.knee(10, 20));
    }

    private static void promise20None() {
        PartCurves x = Bench.on(Bench.wired(0));
        x.sweep(0, 2000, 500, 1, 0, 1);
        check.due("20 told volts lie on the line", Bench.NONE, x.knee(0, 4));
        check.due("20 one", Bench.NONE, x.knee(2, 2));
        check.due("20 two", Bench.NONE, x.knee(0, 1));
        check.due("20 there and back ends at one point", Bench.NONE, x.knee(0, 8));
    }

    private static void promise20Refused() {
        PartCurves x = Bench.on(Bench.wired(1));
        check.due("20 no readings", Bench.UNKNOWN, x.knee(0, 0));
        x.sweep(0, 1000, 200, 1, 0, 0);
        check.due("20 a", Bench.UNKNOWN, x.knee(-1, 5));
        check.due("20 a", Bench.UNKNOWN, x.knee(6, 6));
        check.due("20 b", Bench.UNKNOWN, x.knee(0, 6));
        check.due("20 b", Bench.UNKNOWN, x.knee(0, -1));
        check.due("20 above", Bench.OUTSIDE, x.knee(5, 4));
        check.due("20 UNKNOWN ahead of OUTSIDE", Bench.UNKNOWN, x.knee(6, 4));
    }

    private static void fit(PartCurves x, int a, int b, long... due) {
        for (int what = 0; what < 6; what++) {
            check.due("21 fit(" + a + ", " + b + ", " + what + ")", due[what], x.fit(a, b, what));
        }
    }

    private static void promise21Lines() {
        PartCurves x = Bench.wired(0);
        x.set(0, 0, 2000);
        x.limit(20000);
        x.power(1);
        x.sweep(-3000, 3000, 1000, 1, 0, 0);
        fit(x, 0, 6, 2, 1, 0, 1, 0, 1);
        fit(x, 2, 3, 2, 1, 0, 1, 0, 1);
        x = Bench.on(Bench.wired(1));
        x.sweep(700, 1000, 100, 1, 0, 0);
        fit(x, 0, 3, 1, 1, -600, 1, 600, 1);
        x.clear();
        x.set(0, 1, 1);
        x.sweep(0, 2, 1, 1, 0, 0);
        fit(x, 0, 2, 1, 2, -1, 6, 1, 3);
    }

    private static void promise21LeastTerms() {
        PartCurves x = Bench.wired(0);
        x.set(0, 0, 333);
        x.power(1);
        x.pulse(100, 1);
        x.pulse(1000, 1);
        fit(x, 0, 1, 1, 3, -1, 3, 1, 1);
        x.clear();
        x.pulse(-100, 1);
        x.pulse(-1000, 1);
        // (-100, -34), (-1000, -333)
        fit(x, 0, 1, 299, 900, -7, 9, 700, 299);
    }

    private static void promise21Falling() {
        PartCurves x = Bench.on(Bench.wired(0));
        x.pulse(100, 1);
        x.set(0, 0, 1);
        x.pulse(1000, 1);
        fit(x, 0, 1, -11, 100, 111, 1, 11100, 11);
        x.set(0, 0, 100);
        x.pulse(1000, 1);
        x.set(0, 0, 1000);
        x.pulse(100, 1);
        fit(x, 2, 3, 0, 1, 100, 1, Bench.LOST, Bench.LOST);
    }

    private static void promise21Told() {
        PartCurves x = Bench.on(Bench.wired(0));
        x.limit(600);
        x.sweep(200, 1000, 200, 1, 0, 0);
        fit(x, 0, 4, 1, 1, 0, 1, 0, 1);
        x.clear();
        x.limit(20000);
        x.leads(200);
        x.pulse(600, 1);
        x.pulse(1200, 1);
        fit(x, 0, 1, 5, 6, 0, 1, 0, 1);
        x.clear();
        x.limit(20000);
        x.set(0, 0, 5000);
        x.leads(0);
        x.sweep(2942, 3000, 1, 1, 100, 0);
        fit(x, 0, 58, 5, 1, 0, 1, 0, 1);
    }

    private static void promise21None() {
        PartCurves x = Bench.on(Bench.wired(0));
        x.pulse(100, 1);
        x.set(0, 0, 2000);
        x.pulse(100, 1);
        long l = Bench.LOST;
        fit(x, 0, 0, l, l, l, l, l, l);
        fit(x, 0, 1, l, l, l, l, l, l);
        PartCurves y = Bench.on(Bench.wired(3));
        y.sweep(0, 500, 100, 1, 0, 0);
        fit(y, 0, 5, 0, 1, 0, 1, l, l);
    }

    private static void promise21Refused() {
        PartCurves x = Bench.on(Bench.wired(0));
        long l = Bench.LOST;
        check.due("21 LOST", Long.MIN_VALUE, l);
        check.due("21 none", l, x.fit(0, 0, 0));
        x.sweep(0, 3, 1, 1, 0, 0);
        check.due("21 a", l, x.fit(-1, 3, 0));
        check.due("21 a", l, x.fit(4, 4, 0));
        check.due("21 b", l, x.fit(0, 4, 0));
        check.due("21 b", l, x.fit(0, -1, 0));
        check.due("21 above", l, x.fit(3, 0, 0));
        check.due("21 what", l, x.fit(0, 3, -1));
        check.due("21 what", l, x.fit(0, 3, 6));
        check.due("21 taken", 1, x.fit(0, 3, 0));
    }

    private static void promise22Gap() {
        PartCurves x = Bench.on(Bench.wired(0));
        x.pulse(100, 1);
        x.set(0, 0, 2500);
        x.pulse(100, 1);
        x.set(0, 0, 1500);
        x.pulse(100, 1);
        x.pulse(-600, 1);
        check.due("22 one", 0, x.gap(0, 0));
        check.due("22 others differ in volts", 150, x.gap(0, 3));
        check.due("22 in part", 100, x.gap(1, 3));
        check.due("22 none alike", 0, x.gap(2, 3));
        check.due("22 first two", 150, x.gap(0, 1));
        x.set(0, 0, 1000);
        x.pulse(-600, 1);
        check.due("22 below 0", 300, x.gap(2, 4));
        check.due("22 the greatest", 300, x.gap(0, 4));
    }

    private static void promise22ForcedVolts() {
        PartCurves x = Bench.on(Bench.wired(0));
        x.pulse(2000, 1);
        x.pulse(3000, 1);
        x.limit(400);
        x.pulse(3000, 1);
        x.pulse(1000, 1);
        check.due("22 alike in forced volts alone", 600, x.gap(0, 3));
        check.due("22 forced ones differ", 0, x.gap(2, 3));
        check.due("22 alike in told volts alone", 0, x.gap(0, 1));
        x.clear();
        x.pulse(1000, 1);
        x.limit(1000);
        x.pulse(2000, 1);
        x.limit(400);
        x.pulse(1000, 1);
        check.due("22 told ones as forced ones", 0, x.gap(0, 2));
        x.clear();
        x.limit(1000);
        x.pulse(2000, 1);
        x.limit(400);
        x.pulse(1000, 1);
        check.due("22 told ones as forced ones", 0, x.gap(0, 1));
    }

    private static void promise22Refused() {
        PartCurves x = Bench.on(Bench.wired(0));
        check.due("22 none", Bench.UNKNOWN, x.gap(0, 0));
        x.sweep(0, 3, 1, 1, 0, 0);
        check.due("22 a", Bench.UNKNOWN, x.gap(-1, 3));
        check.due("22 a", Bench.UNKNOWN, x.gap(4, 4));
        check.due("22 b", Bench.UNKNOWN, x.gap(0, 4));
        check.due("22 b", Bench.UNKNOWN, x.gap(0, -1));
        check.due("22 above", Bench.OUTSIDE, x.gap(3, 2));
        check.due("22 UNKNOWN ahead of OUTSIDE", Bench.UNKNOWN, x.gap(4, 2));
    }

    private static void promise23Many() {
        PartCurves x = new PartCurves();
        for (int n = 0; n < 4; n++) {
            x.part(n, n, n + 4, 0);
            check.due("23 parts", n + 1, x.many(0));
        }
        x.remove(2);
        check.due("23 parts", 3, x.many(0));
        x.relay(0, 0, 1);
        x.relay(0, 7, 1);
        x.relay(1, 4, 1);
        x.relay(2, 0, 1);
        x.relay(3, 0, 1);
        check.due("23 relays", 5, x.many(2));
        x.relay(0, 7, 0);
        check.due("23 relays", 4, x.many(2));
        x.limit(20000);
        x.set(0, 0, 5000);
        x.power(1);
        check.due("23 none burnt", 0, x.many(3));
        x.pulse(3000, 50);
        x.pulse(3000, 50);
        check.due("23 burnt", 1, x.many(3));
        check.due("23 readings", 2, x.many(1));
        x.power(0);
        x.remove(0);
        check.due("23 burnt, but not there", 0, x.many(3));
        check.due("23 what", Bench.OUTSIDE, x.many(-1));
        check.due("23 what", Bench.OUTSIDE, x.many(6));
    }

    private static void promise23Rules() {
        PartCurves x = Bench.wired(0);
        x.leads(100);
        x.power(1);
        x.pulse(0, 1);
        x.pulse(3000, 1);
        x.pulse(-3000, 1);
        x.pulse(500, 1);
        check.due("23 rule 1", 2, x.many(4));
        check.due("23 rule 2", 1, x.many(5));
        check.due("23 all", 4, x.many(1));
        x.clear();
        x.pulse(3000, 1);
        x.pulse(500, 1);
        check.due("23 the first counts", 1, x.many(4));
        check.due("23 the last counts", 1, x.many(5));
        x.clear();
        check.due("23 rule 1", 0, x.many(4));
        check.due("23 rule 2", 0, x.many(5));
    }
}
