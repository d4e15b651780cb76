/** The boundaries of promises 16 to 19: steps, the way back, room, a PART that burns, causes, 60 READINGS. */
public final class SweepsEdgesTest {
    private static final int UNKNOWN = Bench.UNKNOWN, OUTSIDE = Bench.OUTSIDE, STATE = Bench.STATE;
    private static final int FULL = Bench.FULL, NONE = Bench.NONE;

    private static final Check check = new Check("SweepsEdgesTest");
    private static final Edge edge = new Edge(check);

    public static void main(String[] args) {
        promise16VoltRanges();
        promise16OtherRanges();
        promise16States();
        promise16Room();
        promise16RoomThatCouldBe();
        promise16OrderToState();
        promise16OrderToFull();
        promise16NotBeyond();
        promise16Edges();
        promise16Back();
        promise16Rests();
        promise16EndsAt1000();
        promise16EndsAtTheFirst();
        promise16EndsAtThe60th();
        promise16EndsOnTheWayBack();
        promise16BurntAhead();
        promise17Ranges();
        promise17HowMany();
        promise17Numbers();
        promise17Stays();
        promise17Goes();
        promise18Ranges();
        promise18Order();
        promise18Numbers();
        promise19();
        check.end();
    }

    // ---- 16, refusals

    private static void promise16VoltRanges() {
        edge.range("16 a", -3000, 3000, OUTSIDE, Bench::busy, (x, v) -> x.sweep(v, v, 1, 1, 0, 0),
                (x, v, count) -> count == 1 && x.reading(10, 0) == v + 10000);
        edge.range("16 a, far from b", -3000, 3000, OUTSIDE, Bench::busy, (x, v) -> x.sweep(v, 0, 1000, 1, 0, 0),
                (x, v, count) -> count == 4 - Math.abs(v) % 2 && x.reading(10, 0) == v + 10000);
        edge.range("16 b", -3000, 3000, OUTSIDE, Bench::busy, (x, v) -> x.sweep(0, v, 1000, 1, 0, 0),
                (x, v, count) -> count == 4 - Math.abs(v) % 2 && x.reading(10, 0) == 10000);
        edge.refused("16 both far off", OUTSIDE, Bench::busy,
                x -> x.sweep(Integer.MIN_VALUE, Integer.MAX_VALUE, 1000, 1, 0, 0));
        edge.refused("16 both just outside", OUTSIDE, Bench::busy, x -> x.sweep(3001, 3001, 1000, 1, 0, 0));
    }

    private static void promise16OtherRanges() {
        edge.range("16 step", 1, 1000, OUTSIDE, Bench::busy, (x, v) -> x.sweep(0, v, v, 1, 0, 0),
                (x, v, count) -> count == 2 && x.reading(11, 0) == 10000 + v);
        edge.range("16 w", 1, 50, OUTSIDE, Bench::strongLine, (x, v) -> x.sweep(1000, 1000, 1, v, 0, 0),
                (x, v, count) -> count == 1 && x.ofPart(0, 3) == 2 * v);
        edge.range("16 n", 0, 100, OUTSIDE, Bench::busy, (x, v) -> x.sweep(0, 0, 1, 1, v, 0),
                (x, v, count) -> count == 1 && x.ofPart(1, 3) == (v == 0 ? 1000 : v == 1 ? 937 : 0));
        edge.range("16 back", 0, 1, OUTSIDE, Bench::busy, (x, v) -> x.sweep(0, 2, 1, 1, 0, v),
                (x, v, count) -> count == 3 + 2 * v);
    }

    private static void promise16States() {
        edge.refused("16 power OFF", STATE, Bench::busyOff, x -> x.sweep(0, 0, 1, 1, 0, 0));
        edge.refused("16 none in hand", STATE, Bench::busyNoneInHand, x -> x.sweep(0, 0, 1, 1, 0, 0));
        edge.refused("16 a new object", STATE, PartCurves::new, x -> x.sweep(0, 0, 1, 1, 0, 1));
        edge.refused("16 STATE ahead of FULL", STATE, Bench::busyFullOff, x -> x.sweep(0, 0, 1, 1, 0, 0));
        edge.refused("16 STATE, too many, too", STATE, Bench::busyOff, x -> x.sweep(0, 50, 1, 1, 0, 0));
        edge.due("16 power ON", 1, Bench::busy, x -> x.sweep(0, 0, 1, 1, 0, 0));
    }

    private static void promise16Room() {
        edge.due("16 49 of 50", 49, Bench::busy, x -> x.sweep(0, 48, 1, 1, 0, 0));
        edge.due("16 50 of 50", 50, Bench::busy, x -> x.sweep(0, 49, 1, 1, 0, 0));
        edge.refused("16 51 of 50", FULL, Bench::busy, x -> x.sweep(0, 50, 1, 1, 0, 0));
        edge.due("16 49 of 50, back", 49, Bench::busy, x -> x.sweep(0, -24, 1, 1, 0, 1));
        edge.refused("16 51 of 50, back", FULL, Bench::busy, x -> x.sweep(0, -25, 1, 1, 0, 1));
        edge.due("16 49 of 49, back", 49, () -> Bench.busy(11), x -> x.sweep(24, 0, 1, 1, 0, 1));
        edge.refused("16 49 of 48, back", FULL, () -> Bench.busy(12), x -> x.sweep(24, 0, 1, 1, 0, 1));
        edge.due("16 1 of 1", 1, () -> Bench.busy(59), x -> x.sweep(5, 5, 1, 1, 0, 1));
        edge.due("16 1 of 1, short of b", 1, () -> Bench.busy(59), x -> x.sweep(5, 14, 10, 1, 0, 1));
        edge.refused("16 2 of 1", FULL, () -> Bench.busy(59), x -> x.sweep(5, 15, 10, 1, 0, 0));
        edge.refused("16 1 of 0", FULL, Bench::busyFull, x -> x.sweep(5, 5, 1, 1, 0, 0));
        edge.due("16 60 of 60", 60, Bench::strongLine, x -> x.sweep(0, 59, 1, 1, 0, 0));
        edge.refused("16 61 of 60", FULL, Bench::strongLine, x -> x.sweep(0, 60, 1, 1, 0, 0));
        edge.due("16 59 of 60, back", 59, Bench::strongLine, x -> x.sweep(0, 29, 1, 1, 0, 1));
        edge.refused("16 61 of 60, back", FULL, Bench::strongLine, x -> x.sweep(0, 30, 1, 1, 0, 1));
        edge.refused("16 6001 of 60", FULL, Bench::strongLine, x -> x.sweep(-3000, 3000, 1, 1, 0, 0));
        edge.refused("16 12001 of 60", FULL, Bench::strongLine, x -> x.sweep(3000, -3000, 1, 50, 100, 1));
    }

    /** It would burn at its second PULSE, but it could make more READINGS. */
    private static void promise16RoomThatCouldBe() {
        edge.refused("16 burning makes no room", FULL, () -> burning(900), x -> x.sweep(3000, 2940, 1, 50, 0, 0));
        edge.due("16 it burns, with room", -101, () -> burning(900), x -> x.sweep(3000, 2941, 1, 50, 0, 0));
    }

    private static void promise16OrderToState() {
        edge.refused("16 a ahead of STATE", OUTSIDE, Bench::busyOff, x -> x.sweep(3001, 0, 1000, 1, 0, 0));
        edge.refused("16 b ahead of STATE", OUTSIDE, Bench::busyOff, x -> x.sweep(0, -3001, 1000, 1, 0, 0));
        edge.refused("16 step ahead of STATE", OUTSIDE, Bench::busyOff, x -> x.sweep(0, 0, 0, 1, 0, 0));
        edge.refused("16 w ahead of STATE", OUTSIDE, Bench::busyOff, x -> x.sweep(0, 0, 1, 51, 0, 0));
        edge.refused("16 n ahead of STATE", OUTSIDE, Bench::busyOff, x -> x.sweep(0, 0, 1, 1, 101, 0));
        edge.refused("16 back ahead of STATE", OUTSIDE, Bench::busyOff, x -> x.sweep(0, 0, 1, 1, 0, 2));
        edge.refused("16 all at once", OUTSIDE, Bench::busyFullOff, x -> x.sweep(3001, -3001, 0, 0, -1, -1));
    }

    private static void promise16OrderToFull() {
        edge.refused("16 a ahead of FULL", OUTSIDE, Bench::busyFull, x -> x.sweep(-3001, 0, 1000, 1, 0, 0));
        edge.refused("16 b ahead of FULL", OUTSIDE, Bench::busyFull, x -> x.sweep(0, 3001, 1000, 1, 0, 0));
        edge.refused("16 step ahead of FULL", OUTSIDE, Bench::busyFull, x -> x.sweep(0, 0, 1001, 1, 0, 0));
        edge.refused("16 w ahead of FULL", OUTSIDE, Bench::busyFull, x -> x.sweep(0, 0, 1, 0, 0, 0));
        edge.refused("16 n ahead of FULL", OUTSIDE, Bench::busyFull, x -> x.sweep(0, 0, 1, 1, -1, 0));
        edge.refused("16 back ahead of FULL", OUTSIDE, Bench::busyFull, x -> x.sweep(0, 0, 1, 1, 0, -1));
    }

    // ---- 16, the steps

    private static void swept(int a, int b, int step, int back, int... due) {
        PartCurves x = Bench.strongLine();
        String what = "16 " + a + " to " + b + " by " + step + (back == 1 ? ", back" : "");
        check.due(what, due.length, x.sweep(a, b, step, 1, 0, back));
        check.due(what + ", readings", due.length, x.many(1));
        for (int k = 0; k < due.length; k++) {
            check.due(what + ", reading " + k, due[k] + 10000, x.reading(k, 0));
        }
    }

    private static void promise16NotBeyond() {
        swept(0, 199, 100, 0, 0, 100);
        swept(0, 200, 100, 0, 0, 100, 200);
        swept(0, 201, 100, 0, 0, 100, 200);
        swept(0, 299, 100, 0, 0, 100, 200);
        swept(0, -199, 100, 0, 0, -100);
        swept(0, -200, 100, 0, 0, -100, -200);
        swept(0, -201, 100, 0, 0, -100, -200);
        swept(-50, 49, 100, 0, -50);
        swept(-50, 50, 100, 0, -50, 50);
        swept(50, -49, 100, 0, 50);
        swept(50, -50, 100, 0, 50, -50);
        swept(50, -51, 100, 0, 50, -50);
    }

    private static void promise16Edges() {
        swept(0, 0, 1, 0, 0);
        swept(0, 1, 1, 0, 0, 1);
        swept(0, -1, 1, 0, 0, -1);
        swept(0, 1, 2, 0, 0);
        swept(0, 999, 1000, 0, 0);
        swept(0, 1000, 1000, 0, 0, 1000);
        swept(-3000, 3000, 1000, 0, -3000, -2000, -1000, 0, 1000, 2000, 3000);
        swept(3000, -3000, 999, 0, 3000, 2001, 1002, 3, -996, -1995, -2994);
        swept(3000, 3000, 1000, 0, 3000);
        swept(-3000, -3000, 1000, 0, -3000);
        swept(2999, 3000, 1, 0, 2999, 3000);
        swept(-2999, -3000, 1, 0, -2999, -3000);
        swept(2001, 3000, 1000, 0, 2001);
    }

    private static void promise16Back() {
        swept(5, 5, 1, 1, 5);
        swept(5, 5, 1000, 1, 5);
        swept(5, 14, 10, 1, 5);
        swept(5, 15, 10, 1, 5, 15, 5);
        swept(5, 24, 10, 1, 5, 15, 5);
        swept(5, 25, 10, 1, 5, 15, 25, 15, 5);
        swept(1, -1, 1, 1, 1, 0, -1, 0, 1);
        swept(3000, -3000, 1000, 1, 3000, 2000, 1000, 0, -1000, -2000, -3000, -2000, -1000, 0, 1000, 2000, 3000);
    }

    private static void rested(int n, int back, int due) {
        PartCurves x = Bench.strongLine();
        x.sweep(1000, 1001, 1, 8, n, back);
        check.due("16 heat behind rests of " + n + ", back " + back, due, x.ofPart(0, 3));
    }

    /** Each PULSE warms by 16; a rest takes 1 of 1 to 16, 2 of 17 to 32, 3 of 33 to 48. */
    private static void promise16Rests() {
        rested(0, 0, 32);
        rested(0, 1, 48);
        rested(1, 0, 15 + 16 - 2);
        rested(1, 1, 29 + 16 - 3);
        rested(2, 0, 14 + 16 - 2 - 2);
        rested(100, 0, 0);
        rested(100, 1, 0);
        PartCurves x = Bench.strongLine();
        x.sweep(1000, 1000, 1, 8, 1, 0);
        check.due("16 a rest behind the last, too", 15, x.ofPart(0, 3));
    }

    // ---- 16, what ends it

    /** A LINE of HEAT 900 or 990 to 999, without READINGS: 100 for 50 warms by 1, 99 by none. */
    private static PartCurves burning(int heat) {
        PartCurves x = Bench.strongLine();
        x.pulse(3000, 50);
        if (heat > 900) {
            x.pulse(1000, 45);
        }
        for (int i = 990; i < heat; i++) {
            x.pulse(100, 50);
        }
        check.due("burning", heat, x.ofPart(0, 3));
        x.clear();
        return x;
    }

    private static void causes(String what, PartCurves x, int ahead, int part, int above) {
        int[] numbers = {ahead, part, above};
        for (int k = 0; k < 3; k++) {
            check.due("17 " + what + ", sort of " + k, k + 1, x.why(k, 0));
            check.due("17 " + what + ", number of " + k, numbers[k], x.why(k, 1));
        }
    }

    private static void noCauses(String what, PartCurves x) {
        for (int k = 0; k < 3; k++) {
            check.due("17 " + what + ", no sort of " + k, NONE, x.why(k, 0));
            check.due("17 " + what + ", no number of " + k, NONE, x.why(k, 1));
        }
    }

    private static void promise16EndsAt1000() {
        PartCurves x = burning(998);
        check.due("16 to 999", 2, x.sweep(100, 99, 1, 50, 0, 0));
        check.due("16 999 is not burnt", 0, x.ofPart(0, 4));
        noCauses("999", x);
        x = burning(999);
        check.due("16 to 1000", -101, x.sweep(100, 98, 1, 50, 0, 0));
        causes("1000", x, 0, 0, 1);
        x = burning(999);
        check.due("16 to 1001", -101, x.sweep(1000, 998, 1, 1, 0, 0));
        causes("1001", x, 0, 0, 2);
        x = burning(999);
        check.due("16 rests keep it from burning", 3, x.sweep(99, 101, 1, 50, 1, 0));
        noCauses("rests", x);
    }

    private static void promise16EndsAtTheFirst() {
        PartCurves x = burning(999);
        check.due("16 the only one", -101, x.sweep(100, 100, 1, 50, 100, 0));
        check.due("16 no rest behind it", 1000, x.ofPart(0, 3));
        check.due("16 one reading", 1, x.many(1));
        x = burning(999);
        check.due("16 the first of many", -101, x.sweep(100, 110, 1, 50, 100, 1));
        check.due("16 no rest behind it", 1000, x.ofPart(0, 3));
        check.due("16 one reading", 1, x.many(1));
        causes("the first", x, 0, 0, 1);
        x = burning(999);
        check.due("16 the second", -102, x.sweep(99, 110, 1, 50, 0, 1));
        check.due("16 two readings", 2, x.many(1));
        causes("the second", x, 1, 0, 1);
    }

    private static void promise16EndsAtThe60th() {
        PartCurves x = burning(999);
        check.due("16 none of 60", 60, x.sweep(40, 99, 1, 50, 0, 0));
        noCauses("none of 60", x);
        x = burning(999);
        check.due("16 the 60th", -160, x.sweep(41, 100, 1, 50, 0, 0));
        causes("the 60th", x, 59, 0, 1);
        check.due("16 60 readings", 60, x.many(1));
        check.due("16 no room", FULL, x.sweep(0, 0, 1, 1, 0, 0));
        causes("behind a refused one", x, 59, 0, 1);
        x = burning(999);
        check.due("16 the 59th of 60", -159, x.sweep(42, 101, 1, 50, 0, 0));
        causes("the 59th", x, 58, 0, 1);
        x = burning(999);
        check.due("16 readings ahead do not count", 3, x.sweep(1, 3, 1, 1, 0, 0));
        check.due("16 readings ahead do not count", -102, x.sweep(99, 103, 1, 50, 0, 0));
        causes("readings ahead", x, 1, 0, 1);
        check.due("16 all the readings", 5, x.many(1));
    }

    private static void promise16EndsOnTheWayBack() {
        PartCurves x = burning(999);
        check.due("16 where it turns", -103, x.sweep(98, 100, 1, 50, 0, 1));
        causes("where it turns", x, 2, 0, 1);
        x = burning(998);
        check.due("16 the last of all", -103, x.sweep(100, 99, 1, 50, 0, 1));
        causes("the last of all", x, 2, 0, 1);
        x = burning(997);
        check.due("16 not on the way back", 3, x.sweep(100, 99, 1, 50, 0, 1));
        noCauses("not on the way back", x);
        x = burning(997);
        check.due("16 the first on the way back", -104, x.sweep(99, 101, 1, 50, 0, 1));
        causes("the first on the way back", x, 3, 0, 1);
    }

    private static void promise16BurntAhead() {
        PartCurves x = burning(999);
        x.pulse(100, 50);
        check.due("16 burnt", 1, x.ofPart(0, 4));
        check.due("16 a burnt one goes on", 7, x.sweep(3000, 0, 1000, 50, 0, 1));
        check.due("16 all are read", 8, x.many(1));
        noCauses("a burnt one", x);
        check.due("16 and it rests", 3, x.sweep(3000, 1000, 1000, 50, 1, 0));
        check.due("16 burnt ones cool", 937 - 59 - 55, x.ofPart(0, 3));
    }

    // ---- 17

    private static void promise17Ranges() {
        int[] numbers = {1, 1, 888 + 887 - 999};
        edge.range("17 k", 0, 2, OUTSIDE, Bench::busy, (x, v) -> x.why(v, 0), (x, v, sort) -> sort == v + 1);
        edge.range("17 k of a number", 0, 2, OUTSIDE, Bench::busy, (x, v) -> x.why(v, 1),
                (x, v, number) -> number == numbers[v]);
        edge.range("17 what", 0, 1, OUTSIDE, Bench::busy, (x, v) -> x.why(1, v),
                (x, v, answer) -> answer == (v == 0 ? 2 : 1));
        edge.range("17 k, when there are none", 0, 2, OUTSIDE, PartCurves::new, (x, v) -> x.why(v, 0),
                (x, v, none) -> none == NONE);
        edge.range("17 what, when there are none", 0, 1, OUTSIDE, PartCurves::new, (x, v) -> x.why(0, v),
                (x, v, none) -> none == NONE);
    }

    private static void promise17HowMany() {
        PartCurves x = burning(999);
        x.pulse(100, 50);
        check.due("17 the second of a pulse", 3, x.why(1, 0));
        check.due("17 no third of a pulse", NONE, x.why(2, 0));
        check.due("17 no third of a pulse", NONE, x.why(2, 1));
        x = burning(999);
        x.sweep(100, 100, 1, 50, 0, 0);
        causes("a sweep of one", x, 0, 0, 1);
        noCauses("at first", new PartCurves());
        noCauses("a part that is warm", burning(999));
    }

    private static void promise17Numbers() {
        for (int n = 0; n < 4; n++) {
            PartCurves x = new PartCurves();
            x.part(n, 0, 1, 0);
            x.set(n, 0, 5000);
            x.limit(20000);
            Bench.on(Bench.bring(x, 1, 0)).pulse(3000, 50);
            check.due("17 part " + n, n, x.why(0, 1));
            check.due("17 above 999, of part " + n, 4500 - 999, x.why(1, 1));
        }
        PartCurves x = new PartCurves();
        x.part(3, 0, 1, 0);
        x.set(3, 0, 5000);
        x.limit(20000);
        Bench.on(Bench.bring(x, 0, 1)).sweep(0, 3000, 3, 50, 0, 0);
        noCauses("a refused one", x);
        x.sweep(0, 3000, 1000, 50, 0, 0);
        causes("part 3", x, 2, 3, 500 + 2000 - 999);
    }

    private static void promise17Stays() {
        PartCurves x = burning(999);
        x.sweep(99, 100, 1, 50, 0, 0);
        x.sweep(0, 0, 0, 1, 0, 0);
        x.pulse(0, 0);
        causes("OUTSIDE ones", x, 1, 0, 1);
        x.rest(100);
        x.clear();
        x.power(0);
        x.pulse(0, 1);
        x.sweep(0, 0, 1, 1, 0, 0);
        causes("STATE ones", x, 1, 0, 1);
        x.part(0, 0, 1, 0);
        x.remove(0);
        x.relay(0, 0, 0);
        causes("another part", x, 1, 0, 1);
    }

    private static void promise17Goes() {
        PartCurves x = burning(999);
        x.sweep(99, 100, 1, 50, 0, 0);
        x.pulse(0, 1);
        noCauses("a pulse behind it", x);
        x = burning(999);
        x.sweep(99, 100, 1, 50, 0, 0);
        x.sweep(0, 0, 1, 1, 0, 0);
        noCauses("a sweep behind it", x);
        x = burning(999);
        x.pulse(100, 50);
        x.sweep(0, 0, 1, 1, 0, 0);
        noCauses("a sweep behind a pulse", x);
        x.power(0);
        x.part(0, 0, 1, 0);
        x.power(1);
        x.sweep(3000, 2999, 1, 50, 0, 0);
        causes("a new one burns", x, 1, 0, 900 + 899 - 999);
    }

    // ---- 18 and 19

    private static void promise18Ranges() {
        edge.range("18 k of 10", 0, 9, UNKNOWN, Bench::busy, (x, v) -> x.reading(v, 0),
                (x, v, answer) -> answer >= 11000);
        edge.range("18 k of 60", 0, 59, UNKNOWN, Bench::busyFull, (x, v) -> x.reading(v, 0),
                (x, v, answer) -> answer >= 11000);
        edge.refused("18 k of none", UNKNOWN, PartCurves::new, new int[] {-1, 0, 1, 59, 60},
                (x, v) -> x.reading(v, 0));
        edge.range("18 what", 0, 3, OUTSIDE, Bench::busy, (x, v) -> x.reading(8, v),
                (x, v, answer) -> answer == (v == 0 ? 13000 : v == 1 ? 13000 : v == 2 ? 52980 : 2));
    }

    private static void promise18Order() {
        edge.refused("18 UNKNOWN ahead of OUTSIDE", UNKNOWN, Bench::busy, new int[] {-1, 10, 60},
                (x, v) -> x.reading(v, 4));
        edge.refused("18 UNKNOWN ahead of OUTSIDE, of none", UNKNOWN, PartCurves::new, x -> x.reading(0, -1));
        edge.refused("18 OUTSIDE of the last", OUTSIDE, Bench::busyFull, x -> x.reading(59, 4));
    }

    private static void promise18Numbers() {
        PartCurves x = Bench.wired(2);
        x.set(0, 0, 5000);
        x.set(0, 1, 1);
        x.set(0, 2, 2000);
        x.limit(20000);
        x.leads(200);
        Bench.sensed(x);
        x.power(1);
        x.sweep(-3000, 3000, 1000, 1, 100, 0);
        int[] volts = {-2857, -2000, -1000, 0, 1000, 2000, 2857};
        for (int k = 0; k < 7; k++) {
            int u = volts[k];
            check.due("18 forced", 7000 + 1000 * k, x.reading(k, 0));
            check.due("18 told", u + 10000, x.reading(k, 1));
            check.due("18 amps", (u == 0 ? 0 : 7 * u - 5 * Integer.signum(u)) + 50000, x.reading(k, 2));
            check.due("18 rule", k == 0 || k == 6 ? 1 : 0, x.reading(k, 3));
        }
    }

    private static void promise19() {
        edge.due("19 none", 0, PartCurves::new, x -> x.clear());
        edge.due("19 ten", 10, Bench::busy, x -> x.clear());
        edge.due("19 60", 60, Bench::busyFull, x -> x.clear());
        edge.due("19 power OFF", 10, Bench::busyOff, x -> x.clear());
        PartCurves x = Bench.busyFull();
        x.clear();
        check.due("19 again", 0, x.clear());
        check.due("19 none is left", UNKNOWN, x.reading(0, 0));
        check.due("19 none with rule 2", 0, x.many(5));
        check.due("19 no knee", UNKNOWN, x.knee(0, 0));
        check.due("19 no gap", UNKNOWN, x.gap(0, 0));
        check.due("19 no fit", Bench.LOST, x.fit(0, 0, 0));
        causes("cleared", x, 1, 1, 888 + 887 - 999);
        check.due("19 room for 60", 60, x.sweep(0, -59, 1, 1, 0, 0));
        check.due("19 numbered from 0 on", 10000, x.reading(0, 0));
        check.due("19 to 59", 9941, x.reading(59, 0));
    }
}
