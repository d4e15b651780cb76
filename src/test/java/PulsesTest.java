/** Promises 12 to 15. */
public final class PulsesTest {
    private static final Check check = new Check("PulsesTest");

    public static void main(String[] args) {
        promise12Line();
        promise12Knees();
        promise12Snap();
        promise12HeatAndBurnt();
        promise12Refused();
        promise13Limit();
        promise13Leads();
        promise13Turned();
        promise13ChangesNothing();
        promise13Refused();
        promise14Readings();
        promise14Heat();
        promise14Burns();
        promise14SnapOpens();
        promise14SnapShuts();
        promise14SnapTurned();
        promise14Refused();
        promise15Rest();
        promise15Refused();
        check.end();
    }

    private static void amps(String what, PartCurves x, int v, int want) {
        check.due("12 " + what + " at " + v, want + 50000, x.amps(0, v));
    }

    private static void promise12Line() {
        PartCurves x = Bench.wired(0);
        x.set(0, 2, 2000);
        amps("line", x, 0, 0);
        amps("line", x, 700, 700);
        amps("line", x, -700, -700);
        x.set(0, 0, 1);
        amps("line", x, 999, 0);
        amps("line", x, 1000, 1);
        amps("line", x, -1, -1);
        amps("line", x, -1000, -1);
        amps("line", x, -1001, -2);
        x.set(0, 0, 5000);
        amps("line", x, 3000, 15000);
        amps("line", x, -3000, -15000);
    }

    private static void promise12Knees() {
        PartCurves x = Bench.wired(1);
        amps("knee", x, 600, 0);
        amps("knee", x, 601, 1);
        amps("knee", x, -3000, 0);
        x.set(0, 2, 100);
        x.set(0, 0, 1500);
        amps("knee", x, 600, 60);
        amps("knee", x, 601, 61);
        amps("knee", x, 609, 60 + 13);
        amps("knee", x, -601, -61);
        amps("knee", x, -609, -61);
        x.part(0, 0, 1, 2);
        x.set(0, 2, 100);
        x.set(0, 0, 1500);
        amps("two knees", x, 600, 60);
        amps("two knees", x, 609, 60 + 13);
        amps("two knees", x, -600, -60);
        amps("two knees", x, -601, -61 - 2);
        amps("two knees", x, -609, -61 - 14);
        x.set(0, 1, 100);
        amps("two knees", x, 609, 60 + 763);
        amps("two knees", x, -3000, -300 - 4350);
    }

    private static void promise12Snap() {
        PartCurves x = Bench.wired(3);
        x.set(0, 2, 10);
        x.set(0, 1, 500);
        amps("shut", x, 1000, 10);
        amps("shut", x, -1000, -10);
        amps("shut", x, -1, -1);
        x.power(1);
        x.pulse(500, 1);
        amps("open", x, 1000, 1000);
        amps("open", x, -1000, -1000);
        amps("open", x, 1, 1);
    }

    private static void promise12HeatAndBurnt() {
        PartCurves x = Bench.strongLine();
        x.pulse(3000, 50);
        check.due("12 heat", 900, x.ofPart(0, 3));
        amps("c of 0", x, 1900, 1900);
        x.set(0, 4, 1);
        amps("c of 1", x, 1900, 1000);
        amps("c of 1", x, 1901, 1000);
        amps("c of 1", x, -1900, -1000);
        amps("c of 1", x, -1901, -1001);
        x.set(0, 4, 5);
        amps("c of 5", x, 1100, 200);
        x.set(0, 4, 0);
        x.pulse(3000, 50);
        amps("burnt", x, 3000, 0);
        amps("burnt", x, -3000, 0);
    }

    private static void promise12Refused() {
        PartCurves x = new PartCurves();
        x.part(3, 0, 1, 0);
        check.due("12 without relays", 53000, x.amps(3, 3000));
        check.due("12 without relays", 47000, x.amps(3, -3000));
        check.due("12 above", Bench.OUTSIDE, x.amps(3, 3001));
        check.due("12 below", Bench.OUTSIDE, x.amps(3, -3001));
        check.due("12 not there", Bench.UNKNOWN, x.amps(0, 0));
        check.due("12 n", Bench.UNKNOWN, x.amps(4, 0));
        check.due("12 n", Bench.UNKNOWN, x.amps(-1, 0));
        check.due("12 UNKNOWN ahead of OUTSIDE", Bench.UNKNOWN, x.amps(0, 3001));
    }

    private static void would(PartCurves x, int v, int u, int amps, int rule) {
        check.due("13 u for " + v, u + 10000, x.would(v, 0));
        check.due("13 amps for " + v, amps + 50000, x.would(v, 1));
        check.due("13 rule for " + v, rule, x.would(v, 2));
    }

    private static void promise13Limit() {
        PartCurves x = Bench.wired(0);
        would(x, 0, 0, 0, 0);
        would(x, 1000, 1000, 1000, 0);
        would(x, 1001, 1000, 1000, 1);
        would(x, 3000, 1000, 1000, 1);
        would(x, -1000, -1000, -1000, 0);
        would(x, -3000, -1000, -1000, 1);
        x.set(0, 0, 5000);
        x.limit(1);
        would(x, 5, 0, 0, 1);
        would(x, -5, 0, 0, 1);
        x.set(0, 0, 1);
        would(x, 3000, 1999, 1, 1);
        would(x, -3000, -1000, -1, 1);
        x.part(0, 0, 1, 1);
        x.limit(300);
        would(x, 3000, 900, 300, 1);
        would(x, -3000, -3000, 0, 0);
    }

    private static void promise13Leads() {
        PartCurves x = Bench.wired(0);
        x.leads(200);
        would(x, 600, 500, 500, 2);
        would(x, 601, 501, 501, 2);
        would(x, -600, -500, -500, 2);
        would(x, -601, -500, -500, 2);
        would(x, 4, 4, 4, 0);
        would(x, -1, 0, 0, 2);
        x.limit(500);
        would(x, 600, 500, 500, 1);
        x.limit(499);
        would(x, 600, 499, 499, 1);
        would(x, -600, -499, -499, 1);
        x.limit(501);
        would(x, 600, 500, 500, 2);
        would(x, -600, -500, -500, 2);
        x.limit(500);
        would(x, -600, -500, -500, 1);
        Bench.sensed(x);
        x.limit(1000);
        would(x, 600, 600, 600, 0);
        would(x, -600, -600, -600, 0);
        x.limit(599);
        would(x, 600, 599, 599, 1);
        x.relay(2, 5, 1);
        would(x, 600, 500, 500, 2);
    }

    private static void promise13Turned() {
        PartCurves x = Bench.turned(1);
        x.set(0, 2, 3);
        would(x, 1000, 1000, 3, 0);
        would(x, 999, 999, 3, 0);
        would(x, -1000, -1000, -403, 0);
        would(x, -999, -999, -401, 0);
        x.limit(300);
        would(x, -1000, -898, -300, 1);
    }

    private static void promise13ChangesNothing() {
        PartCurves x = Bench.wired(3);
        x.set(0, 1, 100);
        x.limit(20000);
        would(x, 3000, 3000, 0, 0);
        x.set(0, 2, 2000);
        would(x, 3000, 3000, 6000, 0);
        check.due("13 still shut", 0, x.ofPart(0, 5));
        check.due("13 still cold", 0, x.ofPart(0, 3));
        check.due("13 no readings", 0, x.many(1));
        check.due("13 power off", 0, x.now(2));
        x.power(1);
        would(x, 3000, 3000, 6000, 0);
        x.set(0, 0, 5000);
        x.pulse(3000, 50);
        check.due("13 burnt", 1, x.ofPart(0, 4));
        x.leads(200);
        x.limit(1);
        would(x, 3000, 3000, 0, 0);
        check.due("13 why stays", 2, x.why(0, 0));
    }

    private static void promise13Refused() {
        PartCurves x = Bench.wired(0);
        check.due("13 v", Bench.OUTSIDE, x.would(3001, 0));
        check.due("13 v", Bench.OUTSIDE, x.would(-3001, 0));
        check.due("13 what", Bench.OUTSIDE, x.would(0, -1));
        check.due("13 what", Bench.OUTSIDE, x.would(0, 3));
        x.relay(0, 0, 0);
        check.due("13 none in hand", Bench.STATE, x.would(0, 0));
        check.due("13 OUTSIDE ahead of STATE", Bench.OUTSIDE, x.would(3001, 0));
        check.due("13 OUTSIDE ahead of STATE", Bench.OUTSIDE, x.would(0, 3));
    }

    private static void read(PartCurves x, int k, int v, int told, int amps, int rule) {
        check.due("14 forced of " + k, v + 10000, x.reading(k, 0));
        check.due("14 told of " + k, told + 10000, x.reading(k, 1));
        check.due("14 amps of " + k, amps + 50000, x.reading(k, 2));
        check.due("14 rule of " + k, rule, x.reading(k, 3));
    }

    private static void promise14Readings() {
        PartCurves x = Bench.wired(0);
        x.leads(200);
        x.power(1);
        check.due("14 first", 1, x.pulse(600, 1));
        check.due("14 next", 2, x.pulse(-601, 1));
        x.limit(100);
        check.due("14 next", 3, x.pulse(-601, 50));
        read(x, 0, 600, 600, 500, 2);
        read(x, 1, -601, -600, -500, 2);
        read(x, 2, -601, -120, -100, 1);
        x.power(0);
        Bench.sensed(x);
        x.power(1);
        check.due("14 next", 4, x.pulse(-601, 50));
        read(x, 3, -601, -100, -100, 1);
        check.due("14 to 3000", 5, x.pulse(3000, 1));
        check.due("14 to -3000", 6, x.pulse(-3000, 1));
        check.due("14 at 0", 7, x.pulse(0, 1));
        read(x, 6, 0, 0, 0, 0);
    }

    private static void promise14Heat() {
        PartCurves x = Bench.strongLine();
        x.part(1, 0, 1, 0);
        x.pulse(999, 1);
        check.due("14 998001 by 500000", 1, x.ofPart(0, 3));
        x.pulse(-1000, 1);
        check.due("14 without its sign", 3, x.ofPart(0, 3));
        x.pulse(707, 1);
        check.due("14 cut down", 3, x.ofPart(0, 3));
        x.pulse(708, 1);
        check.due("14 501264 by 500000", 4, x.ofPart(0, 3));
        x.pulse(1000, 50);
        check.due("14 time", 104, x.ofPart(0, 3));
        x.set(0, 0, 5000);
        x.limit(15000);
        x.leads(100);
        x.pulse(3000, 1);
        check.due("14 u, not told volts", 104 + 40, x.ofPart(0, 3));
    }

    private static void promise14Burns() {
        PartCurves x = Bench.strongLine();
        x.pulse(3000, 50);
        check.due("14 nearly", 900, x.ofPart(0, 3));
        x.pulse(990, 50);
        check.due("14 998 is not burnt", 998, x.ofPart(0, 3));
        x.pulse(708, 1);
        check.due("14 999 is not burnt", 999, x.ofPart(0, 3));
        check.due("14 999 is not burnt", 0, x.ofPart(0, 4));
        check.due("14 no causes", Bench.NONE, x.why(0, 0));
        check.due("14 burns", 4, x.pulse(708, 1));
        check.due("14 1000", 1000, x.ofPart(0, 3));
        check.due("14 burnt", 1, x.ofPart(0, 4));
        check.due("14 the reading is ahead of burning", 50708, x.reading(3, 2));
        check.due("14 why", 1, x.why(1, 1));
        check.due("14 burnt goes on", 5, x.pulse(3000, 50));
        read(x, 4, 3000, 3000, 0, 0);
        check.due("14 no more", 1000, x.ofPart(0, 3));
        check.due("14 it was burnt", Bench.NONE, x.why(0, 0));
        x = Bench.wired(0);
        x.set(0, 0, 5000);
        x.limit(20000);
        x.power(1);
        x.pulse(-3000, 50);
        check.due("14 far above 999", 4500 - 999, x.why(1, 1));
        check.due("14 1000", 1000, x.ofPart(0, 3));
    }

    private static PartCurves snap(PartCurves x) {
        x.set(0, 1, 500);
        x.set(0, 2, 10);
        x.set(0, 3, 300);
        return Bench.on(x);
    }

    private static void promise14SnapOpens() {
        PartCurves x = snap(Bench.wired(3));
        x.pulse(499, 1);
        check.due("14 below k", 0, x.ofPart(0, 5));
        read(x, 0, 499, 499, 4, 0);
        x.pulse(500, 1);
        check.due("14 at k", 1, x.ofPart(0, 5));
        read(x, 1, 500, 500, 500, 0);
        x.pulse(400, 1);
        read(x, 2, 400, 400, 400, 0);
        x = snap(Bench.wired(3));
        x.pulse(-3000, 1);
        check.due("14 below 0", 0, x.ofPart(0, 5));
        x.limit(4);
        x.pulse(3000, 1);
        check.due("14 the limit holds it below k", 0, x.ofPart(0, 5));
        read(x, 1, 3000, 499, 4, 1);
        x.limit(5);
        x.pulse(3000, 1);
        read(x, 2, 3000, 5, 5, 1);
        x = Bench.wired(1);
        x.set(0, 1, 10);
        x.power(1);
        x.pulse(50, 1);
        check.due("14 a knee is no snap", 0, x.ofPart(0, 5));
    }

    private static void promise14SnapShuts() {
        PartCurves x = snap(Bench.wired(3));
        x.pulse(500, 1);
        x.pulse(300, 1);
        check.due("14 not less than m", 1, x.ofPart(0, 5));
        x.pulse(299, 1);
        check.due("14 less than m", 0, x.ofPart(0, 5));
        read(x, 2, 299, 299, 299, 0);
        x.pulse(299, 1);
        read(x, 3, 299, 299, 2, 0);
        x.set(0, 3, 501);
        x.pulse(500, 1);
        check.due("14 open and shut in one", 0, x.ofPart(0, 5));
        read(x, 4, 500, 500, 500, 0);
        x.set(0, 3, 0);
        x.pulse(500, 1);
        x.pulse(0, 1);
        check.due("14 m of 0 holds at 0", 1, x.ofPart(0, 5));
        x.pulse(-1, 1);
        check.due("14 but not below", 0, x.ofPart(0, 5));
        x.set(0, 0, 5000);
        x.limit(20000);
        x.pulse(3000, 50);
        check.due("14 burnt, open", 11, 10 * x.ofPart(0, 4) + x.ofPart(0, 5));
        x.set(0, 3, 1);
        x.pulse(3000, 50);
        check.due("14 burnt ones shut", 0, x.ofPart(0, 5));
        x.pulse(3000, 50);
        check.due("14 burnt ones do not open", 0, x.ofPart(0, 5));
    }

    private static void promise14SnapTurned() {
        PartCurves x = snap(Bench.turned(3));
        x.pulse(3000, 1);
        check.due("14 turned", 0, x.ofPart(0, 5));
        read(x, 0, 3000, 3000, 30, 0);
        x.pulse(-499, 1);
        check.due("14 turned, below k", 0, x.ofPart(0, 5));
        x.pulse(-500, 1);
        check.due("14 turned, at k", 1, x.ofPart(0, 5));
        read(x, 2, -500, -500, -500, 0);
        x.pulse(-300, 1);
        check.due("14 turned, not less than m", 1, x.ofPart(0, 5));
        x.pulse(-299, 1);
        check.due("14 turned, less than m", 0, x.ofPart(0, 5));
    }

    private static void promise14Refused() {
        PartCurves x = Bench.wired(0);
        check.due("14 power off", Bench.STATE, x.pulse(0, 1));
        check.due("14 v", Bench.OUTSIDE, x.pulse(3001, 1));
        check.due("14 v", Bench.OUTSIDE, x.pulse(-3001, 1));
        check.due("14 w", Bench.OUTSIDE, x.pulse(0, 0));
        check.due("14 w", Bench.OUTSIDE, x.pulse(0, 51));
        x.power(1);
        for (int i = 1; i <= 60; i++) {
            check.due("14 room", i, x.pulse(3, 1));
        }
        int heat = x.ofPart(0, 3);
        check.due("14 full", Bench.FULL, x.pulse(3000, 50));
        check.due("14 OUTSIDE ahead of FULL", Bench.OUTSIDE, x.pulse(3001, 1));
        check.due("14 nothing changed", heat, x.ofPart(0, 3));
        check.due("14 nothing changed", 60, x.many(1));
        x.power(0);
        check.due("14 STATE ahead of FULL", Bench.STATE, x.pulse(3, 1));
        x.clear();
        x.power(1);
        check.due("14 room again", 1, x.pulse(3, 1));
    }

    private static void promise15Rest() {
        PartCurves x = Bench.strongLine();
        check.due("15 cold", 0, x.rest(100));
        x.pulse(3000, 50);
        check.due("15 none", 900, x.rest(0));
        check.due("15 one", 843, x.rest(1));
        check.due("15 two", 740, x.rest(2));
        x = Bench.strongLine();
        x.pulse(2000, 2);
        check.due("15 16", 15, x.rest(1));
        check.due("15 15 more", 0, x.rest(15));
        x.pulse(1000, 8);
        x.pulse(708, 1);
        check.due("15 17", 15, x.rest(1));
        x = Bench.strongLine();
        x.pulse(3000, 50);
        x.pulse(3000, 50);
        check.due("15 burnt ones cool", 937, x.rest(1));
        check.due("15 and stay burnt", 1, x.ofPart(0, 4));
        x.power(0);
        x.part(1, 2, 3, 0);
        x.relay(0, 0, 0);
        x.relay(0, 2, 1);
        x.relay(1, 1, 0);
        x.relay(1, 3, 1);
        x.power(1);
        x.pulse(2000, 2);
        check.due("15 the greatest of all", 878, x.rest(1));
        check.due("15 all cool", 15, x.ofPart(1, 3));
        x.power(0);
        x.remove(0);
        check.due("15 of those there", 14, x.rest(1));
    }

    private static void promise15Refused() {
        PartCurves x = new PartCurves();
        check.due("15 no parts", 0, x.rest(0));
        check.due("15 n", Bench.OUTSIDE, x.rest(-1));
        check.due("15 n", Bench.OUTSIDE, x.rest(101));
        x = Bench.strongLine();
        x.pulse(3000, 50);
        x.rest(101);
        check.due("15 nothing changed", 900, x.rest(0));
        check.due("15 most", 0, x.rest(100));
    }
}
