/** Promises 16 to 19. */
public final class SweepsTest {
    private static final Check check = new Check("SweepsTest");

    public static void main(String[] args) {
        promise16Steps();
        promise16Rests();
        promise16Burns();
        promise16BurntAlready();
        promise16Snaps();
        promise16Outside();
        promise16StateAndFull();
        promise17Why();
        promise17Latest();
        promise17Refused();
        promise18Reading();
        promise18Refused();
        promise19Clear();
        check.end();
    }

    /** The FORCED volts of all READINGS are as due. */
    private static void forced(String what, PartCurves x, int... due) {
        check.due("16 how many " + what, due.length, x.many(1));
        for (int k = 0; k < due.length; k++) {
            check.due("16 " + what + ", forced of " + k, due[k] + 10000, x.reading(k, 0));
        }
        x.clear();
    }

    private static void promise16Steps() {
        PartCurves x = Bench.on(Bench.wired(0));
        check.due("16 up", 3, x.sweep(0, 200, 100, 1, 0, 0));
        forced("up", x, 0, 100, 200);
        check.due("16 not beyond", 3, x.sweep(0, 299, 100, 1, 0, 0));
        forced("not beyond", x, 0, 100, 200);
        check.due("16 back", 5, x.sweep(0, 250, 100, 1, 0, 1));
        forced("back", x, 0, 100, 200, 100, 0);
        check.due("16 over 0", 3, x.sweep(-100, 50, 60, 1, 0, 0));
        forced("over 0", x, -100, -40, 20);
        check.due("16 down", 5, x.sweep(50, -100, 60, 1, 0, 1));
        forced("down", x, 50, -10, -70, -10, 50);
        check.due("16 one", 1, x.sweep(7, 7, 1000, 1, 0, 0));
        forced("one", x, 7);
        check.due("16 one, back", 1, x.sweep(7, 7, 1, 1, 0, 1));
        forced("one, back", x, 7);
        check.due("16 a step too far", 1, x.sweep(0, 999, 1000, 1, 0, 1));
        forced("a step too far", x, 0);
        check.due("16 all the way", 7, x.sweep(3000, -3000, 1000, 1, 0, 0));
        forced("all the way", x, 3000, 2000, 1000, 0, -1000, -2000, -3000);
        x.pulse(1, 1);
        check.due("16 behind others", 2, x.sweep(5, 6, 1, 1, 0, 0));
        forced("behind others", x, 1, 5, 6);
    }

    private static void promise16Rests() {
        PartCurves x = Bench.strongLine();
        x.sweep(1000, 1000, 1, 8, 0, 0);
        check.due("16 no rest", 16, x.ofPart(0, 3));
        x = Bench.strongLine();
        x.sweep(1000, 1000, 1, 8, 1, 0);
        check.due("16 a rest behind one", 15, x.ofPart(0, 3));
        x = Bench.strongLine();
        x.sweep(1000, 1000, 1, 8, 3, 1);
        check.due("16 a rest of 3", 13, x.ofPart(0, 3));
        x = Bench.strongLine();
        x.sweep(1000, 0, 1000, 8, 2, 1);
        check.due("16 a rest behind each", 28 - 2 - 2, x.ofPart(0, 3));
        x = Bench.strongLine();
        x.power(0);
        x.part(2, 0, 1, 0);
        x.part(3, 4, 5, 0);
        x.power(1);
        x.pulse(1000, 8);
        x.power(0);
        x.relay(0, 0, 0);
        x.relay(0, 4, 1);
        x.relay(1, 1, 0);
        x.relay(1, 5, 1);
        x.power(1);
        x.sweep(0, 0, 1, 1, 4, 0);
        check.due("16 all parts cool", 12, x.ofPart(0, 3));
    }

    private static void promise16Burns() {
        PartCurves x = Bench.strongLine();
        check.due("16 burns", -102, x.sweep(3000, 2990, 1, 50, 1, 1));
        check.due("16 two readings", 2, x.many(1));
        check.due("16 no rest behind it", 1000, x.ofPart(0, 3));
        check.due("16 sort", 1, x.why(0, 0));
        check.due("16 ahead", 1, x.why(0, 1));
        check.due("16 above 999", 843 + 899 - 999, x.why(2, 1));
        x = Bench.strongLine();
        x.pulse(3000, 50);
        check.due("16 burns at the first", -101, x.sweep(3000, 2000, 100, 50, 1, 1));
        check.due("16 one ahead of it", 2, x.many(1));
        check.due("16 none ahead", 0, x.why(0, 1));
        x = Bench.strongLine();
        check.due("16 burns at the last", -102, x.sweep(3000, 2999, 1, 50, 0, 0));
        check.due("16 ahead", 1, x.why(0, 1));
        x = Bench.strongLine();
        check.due("16 burns on the way back", -103, x.sweep(2500, 1500, 1000, 50, 0, 1));
        check.due("16 two ahead", 2, x.why(0, 1));
    }

    private static void promise16BurntAlready() {
        PartCurves x = Bench.strongLine();
        x.pulse(3000, 50);
        x.pulse(3000, 50);
        check.due("16 burnt", 1, x.ofPart(0, 4));
        check.due("16 it goes on", 5, x.sweep(1000, 3000, 1000, 50, 0, 1));
        check.due("16 no causes", Bench.NONE, x.why(0, 0));
        check.due("16 no amps", 50000, x.reading(4, 2));
    }

    private static void promise16Snaps() {
        PartCurves x = Bench.wired(3);
        x.set(0, 1, 500);
        x.set(0, 3, 300);
        x.power(1);
        check.due("16 a snap", 13, x.sweep(0, 600, 100, 1, 0, 1));
        int[] due = {0, 0, 0, 0, 0, 500, 600, 500, 400, 300, 200, 0, 0};
        for (int k = 0; k < due.length; k++) {
            check.due("16 amps of a snap " + k, due[k] + 50000, x.reading(k, 2));
        }
    }

    private static void promise16Outside() {
        PartCurves x = Bench.on(Bench.wired(0));
        check.due("16 a", Bench.OUTSIDE, x.sweep(3001, 3000, 100, 1, 0, 0));
        check.due("16 a", Bench.OUTSIDE, x.sweep(-3001, -3000, 100, 1, 0, 0));
        check.due("16 b", Bench.OUTSIDE, x.sweep(3000, 3001, 100, 1, 0, 0));
        check.due("16 b", Bench.OUTSIDE, x.sweep(-3000, -3001, 100, 1, 0, 0));
        check.due("16 far", Bench.OUTSIDE, x.sweep(Integer.MIN_VALUE, Integer.MAX_VALUE, 1, 1, 0, 0));
        check.due("16 step", Bench.OUTSIDE, x.sweep(0, 1, 0, 1, 0, 0));
        check.due("16 step", Bench.OUTSIDE, x.sweep(0, 1, 1001, 1, 0, 0));
        check.due("16 step", Bench.OUTSIDE, x.sweep(0, 1, -1, 1, 0, 0));
        check.due("16 w", Bench.OUTSIDE, x.sweep(0, 1, 1, 0, 0, 0));
        check.due("16 w", Bench.OUTSIDE, x.sweep(0, 1, 1, 51, 0, 0));
        check.due("16 n", Bench.OUTSIDE, x.sweep(0, 1, 1, 1, -1, 0));
        check.due("16 n", Bench.OUTSIDE, x.sweep(0, 1, 1, 1, 101, 0));
        check.due("16 back", Bench.OUTSIDE, x.sweep(0, 1, 1, 1, 0, -1));
        check.due("16 back", Bench.OUTSIDE, x.sweep(0, 1, 1, 1, 0, 2));
        check.due("16 no readings", 0, x.many(1));
        check.due("16 edges", 7, x.sweep(-3000, 3000, 1000, 50, 100, 0));
    }

    private static void promise16StateAndFull() {
        PartCurves x = Bench.wired(0);
        check.due("16 power off", Bench.STATE, x.sweep(0, 1, 1, 1, 0, 0));
        check.due("16 OUTSIDE ahead of STATE", Bench.OUTSIDE, x.sweep(0, 1, 0, 1, 0, 0));
        check.due("16 STATE ahead of FULL", Bench.STATE, x.sweep(0, 3000, 1, 1, 0, 0));
        x.power(1);
        check.due("16 61", Bench.FULL, x.sweep(0, 60, 1, 1, 0, 0));
        check.due("16 61, back", Bench.FULL, x.sweep(0, 30, 1, 1, 0, 1));
        check.due("16 OUTSIDE ahead of FULL", Bench.OUTSIDE, x.sweep(0, 60, 1, 1, 0, 2));
        check.due("16 none made", 0, x.many(1));
        check.due("16 59, back", 59, x.sweep(0, 29, 1, 1, 0, 1));
        check.due("16 room for one", Bench.FULL, x.sweep(0, 1, 1, 1, 0, 0));
        check.due("16 the last", 1, x.sweep(0, 0, 1, 1, 0, 1));
        check.due("16 no room", Bench.FULL, x.sweep(0, 0, 1, 1, 0, 0));
        x.clear();
        check.due("16 60", 60, x.sweep(0, -59, 1, 1, 0, 0));
        x = Bench.strongLine();
        check.due("16 it would burn sooner, but could make more", Bench.FULL, x.sweep(3000, 0, 1, 50, 0, 0));
        check.due("16 cold still", 0, x.ofPart(0, 3));
    }

    private static void cause(PartCurves x, int k, int sort, int number) {
        check.due("17 sort of " + k, sort, x.why(k, 0));
        check.due("17 number of " + k, number, x.why(k, 1));
    }

    private static void promise17Why() {
        PartCurves x = new PartCurves();
        cause(x, 0, Bench.NONE, Bench.NONE);
        cause(x, 2, Bench.NONE, Bench.NONE);
        x.part(3, 0, 1, 0);
        x.relay(0, 0, 1);
        x.relay(1, 1, 1);
        x.limit(20000);
        x.set(3, 0, 3000);
        x.power(1);
        x.pulse(-3000, 50);
        cause(x, 0, 2, 3);
        cause(x, 1, 3, 2700 - 999);
        cause(x, 2, Bench.NONE, Bench.NONE);
        x = Bench.strongLine();
        x.sweep(1000, 3000, 1000, 50, 0, 0);
        cause(x, 0, 1, 2);
        cause(x, 1, 2, 0);
        cause(x, 2, 3, 100 + 400 + 900 - 999);
    }

    private static void promise17Latest() {
        PartCurves x = Bench.strongLine();
        x.sweep(3000, 2000, 1000, 50, 0, 1);
        cause(x, 0, 1, 1);
        x.pulse(3001, 1);
        x.sweep(0, 3000, 1, 1, 0, 0);
        x.rest(100);
        x.clear();
        cause(x, 2, 3, 900 + 400 - 999);
        x.power(0);
        x.pulse(1, 1);
        x.part(0, 0, 1, 0);
        cause(x, 0, 1, 1);
        x.remove(0);
        cause(x, 1, 2, 0);
        x.part(0, 0, 1, 0);
        x.power(1);
        x.sweep(0, 0, 1, 1, 0, 0);
        cause(x, 0, Bench.NONE, Bench.NONE);
        x.pulse(3000, 50);
        x.pulse(3000, 50);
        cause(x, 0, 2, 0);
        cause(x, 1, 3, 801);
        cause(x, 2, Bench.NONE, Bench.NONE);
        x.pulse(0, 1);
        cause(x, 0, Bench.NONE, Bench.NONE);
    }

    private static void promise17Refused() {
        PartCurves x = new PartCurves();
        check.due("17 k", Bench.OUTSIDE, x.why(-1, 0));
        check.due("17 k", Bench.OUTSIDE, x.why(3, 0));
        check.due("17 what", Bench.OUTSIDE, x.why(0, -1));
        check.due("17 what", Bench.OUTSIDE, x.why(0, 2));
        check.due("17 what, last", Bench.OUTSIDE, x.why(2, 2));
    }

    private static void promise18Reading() {
        PartCurves x = Bench.wired(0);
        x.leads(100);
        x.set(0, 0, 500);
        x.power(1);
        x.pulse(-1000, 1);
        x.pulse(3000, 1);
        // u -952: amps -476, drop [-47.6] = -48
        check.due("18 forced", 9000, x.reading(0, 0));
        check.due("18 told", 9000, x.reading(0, 1));
        check.due("18 amps", 49524, x.reading(0, 2));
        check.due("18 rule", 2, x.reading(0, 3));
        // u 2001 has 1000 amps, 2002 has 1001; drop 100
        check.due("18 forced", 13000, x.reading(1, 0));
        check.due("18 told", 12101, x.reading(1, 1));
        check.due("18 amps", 51000, x.reading(1, 2));
        check.due("18 rule", 1, x.reading(1, 3));
        x.power(0);
        x.remove(0);
        x.leads(0);
        x.limit(1);
        check.due("18 readings stay", 12101, x.reading(1, 1));
    }

    private static void promise18Refused() {
        PartCurves x = Bench.on(Bench.wired(0));
        check.due("18 none", Bench.UNKNOWN, x.reading(0, 0));
        x.pulse(1, 1);
        check.due("18 k", Bench.UNKNOWN, x.reading(-1, 0));
        check.due("18 k", Bench.UNKNOWN, x.reading(1, 0));
        check.due("18 k", Bench.UNKNOWN, x.reading(60, 0));
        check.due("18 what", Bench.OUTSIDE, x.reading(0, -1));
        check.due("18 what", Bench.OUTSIDE, x.reading(0, 4));
        check.due("18 UNKNOWN ahead of OUTSIDE", Bench.UNKNOWN, x.reading(1, 4));
    }

    private static void promise19Clear() {
        PartCurves x = Bench.on(Bench.wired(0));
        check.due("19 none", 0, x.clear());
        x.sweep(0, 4, 1, 1, 0, 0);
        check.due("19 five", 5, x.clear());
        check.due("19 none left", 0, x.many(1));
        check.due("19 unknown", Bench.UNKNOWN, x.reading(0, 0));
        check.due("19 again", 0, x.clear());
        check.due("19 from 0 on", 1, x.pulse(9, 1));
        check.due("19 the new one", 10009, x.reading(0, 0));
        check.due("19 part stays", 1, x.many(0));
        check.due("19 power stays", 1, x.now(2));
    }
}
