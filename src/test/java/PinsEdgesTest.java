/** The boundaries of promises 1 to 11: ranges, refusals and their order, what a refused call leaves alone. */
public final class PinsEdgesTest {
    private static final int UNKNOWN = Bench.UNKNOWN, OUTSIDE = Bench.OUTSIDE, STATE = Bench.STATE;
    private static final int[] FEWEST = {1, 1, 0, 0, 0};
    private static final int[] MOST = {5000, 2000, 2000, 5000, 5};
    private static final int[] AT_FIRST = {1000, 600, 0, 0, 0};

    private static final Check check = new Check("PinsEdgesTest");
    private static final Edge edge = new Edge(check);

    public static void main(String[] args) {
        promise1Empty();
        promise2Ranges();
        promise2OnePin();
        promise2Order();
        promise2InPlace();
        promise3();
        promise4Ranges();
        promise4Order();
        promise5();
        promise6Ranges();
        promise6HighAndLow();
        promise6Order();
        promise7();
        promise8Ranges();
        promise8NoneInHand();
        promise8Order();
        promise9();
        promise10();
        promise11Range();
        promise11LeastInHand();
        promise11OnePinAlone();
        promise11SensesAlone();
        promise11SensesWithoutAPin();
        check.end();
    }

    private static PartCurves fourParts() {
        PartCurves x = new PartCurves();
        for (int n = 0; n < 4; n++) {
            x.part(n, n, 7 - n, n);
        }
        return x;
    }

    private static void promise1Empty() {
        PartCurves x = new PartCurves();
        for (int n = 0; n < 4; n++) {
            check.due("1 part " + n + " to remove", UNKNOWN, x.remove(n));
            check.due("1 part " + n + " to set", UNKNOWN, x.set(n, 0, 1000));
            check.due("1 amps of part " + n, UNKNOWN, x.amps(n, 0));
        }
        check.due("1 knee", UNKNOWN, x.knee(0, 0));
        check.due("1 gap", UNKNOWN, x.gap(0, 0));
        check.due("1 fit", Bench.LOST, x.fit(0, 0, 0));
        for (int k = 0; k < 3; k++) {
            check.due("1 sort of cause " + k, Bench.NONE, x.why(k, 0));
            check.due("1 number of cause " + k, Bench.NONE, x.why(k, 1));
        }
        for (int p = 0; p < 8; p++) {
            for (int t = 0; t < 4; t++) {
                check.due("1 relay " + t + " " + p + " was open", 0, x.relay(t, p, 0));
            }
        }
        check.due("1 limit at first", 1000, x.limit(1000));
        check.due("1 leads at first", 0, x.leads(0));
        check.due("1 power at first", 0, x.power(0));
    }

    private static void promise2Ranges() {
        edge.range("2 n", 0, 3, UNKNOWN, Bench::busyOff, (x, v) -> x.part(v, 3, 4, 2),
                (x, v, was) -> was == (v == 2 ? 0 : 1) && x.ofPart(v, 2) == 2 && x.ofPart(v, 0) == 3);
        edge.range("2 first", 0, 7, UNKNOWN, Bench::busyOff, (x, v) -> x.part(2, v, 4, 2),
                (x, v, was) -> was == 0 && x.ofPart(2, 0) == v && x.ofPart(2, 1) == 4);
        edge.range("2 other", 0, 7, UNKNOWN, Bench::busyOff, (x, v) -> x.part(2, 4, v, 2),
                (x, v, was) -> was == 0 && x.ofPart(2, 0) == 4 && x.ofPart(2, 1) == v);
        edge.range("2 kind", 0, 3, OUTSIDE, Bench::busyOff, (x, v) -> x.part(0, 4, 5, v),
                (x, v, was) -> was == 1 && x.ofPart(0, 2) == v);
    }

    private static void promise2OnePin() {
        edge.refused("2 both pins", STATE, Bench::busyOff, new int[] {0, 1, 6, 7}, (x, v) -> x.part(0, v, v, 0));
        edge.refused("2 both pins of none", STATE, Bench::busyOff, new int[] {0, 7}, (x, v) -> x.part(2, v, v, 0));
        edge.taken("2 the next pin", Bench::busyOff, new int[] {0, 6}, (x, v) -> x.part(2, v, v + 1, 0),
                (x, v, was) -> was == 0);
        edge.taken("2 the pin ahead", Bench::busyOff, new int[] {1, 7}, (x, v) -> x.part(2, v, v - 1, 0),
                (x, v, was) -> was == 0);
        edge.refused("2 power, part", STATE, Bench::busy, new int[] {0, 1, 2, 3}, (x, v) -> x.part(v, 1, 2, 0));
        edge.taken("2 no power, part", Bench::busyOff, new int[] {0, 1, 2, 3}, (x, v) -> x.part(v, 1, 2, 0),
                (x, v, was) -> was == (v == 2 ? 0 : 1));
    }

    private static void promise2Order() {
        edge.refused("2 n ahead of kind", UNKNOWN, Bench::busyOff, x -> x.part(4, 0, 1, 4));
        edge.refused("2 first ahead of kind", UNKNOWN, Bench::busyOff, x -> x.part(0, 8, 1, 4));
        edge.refused("2 other ahead of kind", UNKNOWN, Bench::busyOff, x -> x.part(0, 0, -1, -1));
        edge.refused("2 n ahead of one pin", UNKNOWN, Bench::busyOff, x -> x.part(-1, 1, 1, 0));
        edge.refused("2 pins ahead of one pin", UNKNOWN, Bench::busyOff, x -> x.part(0, 8, 8, 0));
        edge.refused("2 kind ahead of one pin", OUTSIDE, Bench::busyOff, x -> x.part(0, 1, 1, 4));
        edge.refused("2 n ahead of power", UNKNOWN, Bench::busy, x -> x.part(4, 0, 1, 0));
        edge.refused("2 first ahead of power", UNKNOWN, Bench::busy, x -> x.part(0, -1, 1, 0));
        edge.refused("2 other ahead of power", UNKNOWN, Bench::busy, x -> x.part(0, 0, 8, 0));
        edge.refused("2 kind ahead of power", OUTSIDE, Bench::busy, x -> x.part(0, 0, 1, -1));
        edge.refused("2 all at once", UNKNOWN, Bench::busy, x -> x.part(4, 8, 8, 4));
    }

    private static void promise2InPlace() {
        PartCurves x = Bench.busyOff();
        for (int k = 0; k < 5; k++) {
            x.set(0, k, MOST[k]);
            x.set(1, k, MOST[k]);
        }
        check.due("2 in place of a burnt one", 1, x.part(1, 7, 6, 3));
        check.due("2 it is not burnt", 0, x.ofPart(1, 4));
        check.due("2 it is cold", 0, x.ofPart(1, 3));
        check.due("2 in place of an open one", 1, x.part(0, 2, 3, 3));
        check.due("2 it is shut", 0, x.ofPart(0, 5));
        for (int k = 0; k < 5; k++) {
            check.due("2 number " + k + " at first", AT_FIRST[k], x.ofPart(0, 10 + k));
            check.due("2 number " + k + " at first", AT_FIRST[k], x.ofPart(1, 10 + k));
        }
        x.set(1, 0, 5000);
        x.remove(1);
        x.part(1, 7, 6, 3);
        check.due("2 where one was removed", 1000, x.ofPart(1, 10));
        check.due("2 others stay", 1, x.ofPart(3, 3) > 0 ? 1 : 0);
        check.due("2 readings stay", 10, x.many(1));
        check.due("2 causes stay", 1, x.why(0, 0));
    }

    private static void promise3() {
        edge.range("3 n", 0, 3, UNKNOWN, PinsEdgesTest::fourParts, (x, v) -> x.remove(v),
                (x, v, one) -> one == 1 && x.ofPart(v, 0) == UNKNOWN && x.many(0) == 3);
        edge.refused("3 not there", UNKNOWN, Bench::busyOff, x -> x.remove(2));
        edge.refused("3 none is there", UNKNOWN, PartCurves::new, new int[] {0, 1, 2, 3}, (x, v) -> x.remove(v));
        edge.refused("3 power", STATE, Bench::busy, new int[] {0, 1, 3}, (x, v) -> x.remove(v));
        edge.taken("3 no power", Bench::busyOff, new int[] {0, 1, 3}, (x, v) -> x.remove(v), (x, v, one) -> one == 1);
        edge.refused("3 UNKNOWN ahead of power", UNKNOWN, Bench::busy, new int[] {-1, 2, 4}, (x, v) -> x.remove(v));
        PartCurves x = fourParts();
        x.remove(3);
        check.due("3 twice", UNKNOWN, x.remove(3));
        check.due("3 the others stay", 3, x.many(0));
    }

    private static void promise4Ranges() {
        edge.range("4 n", 0, 3, UNKNOWN, PinsEdgesTest::fourParts, (x, v) -> x.set(v, 0, 77),
                (x, v, was) -> was == 1000 && x.ofPart(v, 10) == 77);
        edge.refused("4 not there", UNKNOWN, Bench::busy, x -> x.set(2, 0, 1));
        edge.range("4 which", 0, 4, OUTSIDE, Bench::busy, (x, v) -> x.set(3, v, 1),
                (x, v, was) -> was == AT_FIRST[v] && x.ofPart(3, 10 + v) == 1);
        for (int k = 0; k < 5; k++) {
            int which = k;
            edge.range("4 number " + k, FEWEST[k], MOST[k], OUTSIDE, Bench::busy, (x, v) -> x.set(3, which, v),
                    (x, v, was) -> was == AT_FIRST[which] && x.ofPart(3, 10 + which) == v);
        }
        edge.refused("4 the value of another number", OUTSIDE, Bench::busy, x -> x.set(3, 4, 6));
        edge.taken("4 power or not", Bench::busyOff, new int[] {1, 5000}, (x, v) -> x.set(3, 0, v),
                (x, v, was) -> was == 1000 && x.set(3, 0, 5) == v);
    }

    private static void promise4Order() {
        edge.refused("4 UNKNOWN ahead of which", UNKNOWN, Bench::busy, new int[] {-1, 2, 4}, (x, v) -> x.set(v, 5, 1));
        edge.refused("4 UNKNOWN ahead of v", UNKNOWN, Bench::busy, new int[] {-1, 2, 4}, (x, v) -> x.set(v, 0, 0));
        edge.refused("4 both outside", OUTSIDE, Bench::busy, x -> x.set(3, -1, -1));
    }

    private static void promise5() {
        edge.range("5 n", 0, 3, UNKNOWN, PinsEdgesTest::fourParts, (x, v) -> x.ofPart(v, 1),
                (x, v, other) -> other == 7 - v);
        edge.refused("5 not there", UNKNOWN, Bench::busy, x -> x.ofPart(2, 3));
        int[] due = {6, 5, 0, -1, 0, 0};
        edge.range("5 what", 0, 5, OUTSIDE, Bench::busy, (x, v) -> x.ofPart(3, v),
                (x, v, answer) -> v == 3 ? answer > 0 : answer == due[v]);
        edge.range("5 number", 10, 14, OUTSIDE, Bench::busy, (x, v) -> x.ofPart(3, v),
                (x, v, answer) -> answer == AT_FIRST[v - 10]);
        edge.refused("5 between", OUTSIDE, Bench::busy, new int[] {6, 7, 8, 9}, (x, v) -> x.ofPart(3, v));
        edge.refused("5 UNKNOWN ahead of what", UNKNOWN, Bench::busy, new int[] {-1, 2, 4}, (x, v) -> x.ofPart(v, 6));
        edge.due("5 burnt", 1, Bench::busy, x -> x.ofPart(1, 4));
        edge.due("5 burnt is not open", 0, Bench::busy, x -> x.ofPart(1, 5));
        edge.due("5 open", 1, Bench::busy, x -> x.ofPart(0, 5));
        edge.due("5 open is not burnt", 0, Bench::busy, x -> x.ofPart(0, 4));
        edge.due("5 the most heat", 1000, Bench::busy, x -> x.ofPart(1, 3));
    }

    private static void promise6Ranges() {
        edge.range("6 t", 0, 3, UNKNOWN, Bench::busyOff, (x, v) -> x.relay(v, 3, 1),
                (x, v, was) -> was == 0 && (x.pins(v) & 8) == 8);
        edge.range("6 p", 0, 7, UNKNOWN, Bench::busyOff, (x, v) -> x.relay(2, v, 1),
                (x, v, was) -> was == 0 && x.pins(2) == 1 << v);
        edge.range("6 v", 0, 1, OUTSIDE, Bench::busyOff, (x, v) -> x.relay(3, 2, v),
                (x, v, was) -> was == 0 && x.pins(3) == 4 * v);
        edge.refused("6 v of a closed one", OUTSIDE, Bench::busyOff, new int[] {-1, 2}, (x, v) -> x.relay(0, 5, v));
        edge.due("6 a closed one, closed", 1, Bench::busyOff, x -> x.relay(0, 5, 1));
        edge.due("6 a closed one, opened", 1, Bench::busyOff, x -> x.relay(0, 5, 0));
        edge.due("6 an open one, opened", 0, Bench::busyOff, x -> x.relay(0, 4, 0));
    }

    private static void promise6HighAndLow() {
        edge.refused("6 low to high's", STATE, Bench::busyOff, x -> x.relay(1, 5, 1));
        edge.refused("6 high to low's", STATE, Bench::busyOff, x -> x.relay(0, 6, 1));
        edge.taken("6 low beside high's", Bench::busyOff, new int[] {4, 6}, (x, v) -> x.relay(1, v, 1),
                (x, v, was) -> was == (v == 6 ? 1 : 0) && x.pins(1) == (64 | 1 << v));
        edge.taken("6 high beside low's", Bench::busyOff, new int[] {5, 7}, (x, v) -> x.relay(0, v, 1),
                (x, v, was) -> was == (v == 5 ? 1 : 0) && x.pins(0) == (32 | 1 << v));
        edge.due("6 opening low at high's", 0, Bench::busyOff, x -> x.relay(1, 5, 0));
        edge.due("6 opening high at low's", 0, Bench::busyOff, x -> x.relay(0, 6, 0));
        edge.taken("6 senses anywhere", Bench::busyOff, new int[] {5, 6}, (x, v) -> x.relay(2, v, 1),
                (x, v, was) -> was == 0 && x.relay(3, v, 1) == 0);
        PartCurves x = Bench.busyOff();
        x.relay(0, 5, 0);
        check.due("6 low, when high has left", 0, x.relay(1, 5, 1));
        check.due("6 high then is refused", STATE, x.relay(0, 5, 1));
        x = new PartCurves();
        x.relay(2, 3, 1);
        check.due("6 high to a sense's", 0, x.relay(0, 3, 1));
        x.relay(3, 4, 1);
        check.due("6 low to a sense's", 0, x.relay(1, 4, 1));
    }

    private static void promise6Order() {
        edge.refused("6 power, closing", STATE, Bench::busy, x -> x.relay(2, 0, 1));
        edge.refused("6 power, opening", STATE, Bench::busy, x -> x.relay(0, 5, 0));
        edge.refused("6 power, as it is", STATE, Bench::busy, x -> x.relay(0, 5, 1));
        edge.refused("6 t ahead of v", UNKNOWN, Bench::busyOff, x -> x.relay(4, 0, 2));
        edge.refused("6 p ahead of v", UNKNOWN, Bench::busyOff, x -> x.relay(0, 8, 2));
        edge.refused("6 t ahead of power", UNKNOWN, Bench::busy, x -> x.relay(-1, 0, 1));
        edge.refused("6 p ahead of power", UNKNOWN, Bench::busy, x -> x.relay(0, -1, 1));
        edge.refused("6 v ahead of power", OUTSIDE, Bench::busy, x -> x.relay(0, 0, 2));
        edge.refused("6 v ahead of one pin", OUTSIDE, Bench::busyOff, x -> x.relay(1, 5, 2));
    }

    private static void promise7() {
        int[] due = {32, 64, 0, 0};
        edge.range("7 t", 0, 3, UNKNOWN, Bench::busy, (x, v) -> x.pins(v), (x, v, set) -> set == due[v]);
        PartCurves x = new PartCurves();
        for (int p = 0; p < 8; p++) {
            check.due("7 pins below " + p, (1 << p) - 1, x.pins(2));
            x.relay(2, p, 1);
        }
        check.due("7 all", 255, x.pins(2));
        check.due("7 none of another", 0, x.pins(3));
        x.relay(2, 7, 0);
        x.relay(2, 0, 0);
        check.due("7 all but the edges", 126, x.pins(2));
    }

    private static void promise8Ranges() {
        edge.range("8 v, ON", 0, 1, OUTSIDE, Bench::busy, (x, v) -> x.power(v),
                (x, v, was) -> was == 1 && x.now(2) == v);
        edge.range("8 v, OFF", 0, 1, OUTSIDE, Bench::busyOff, (x, v) -> x.power(v),
                (x, v, was) -> was == 0 && x.now(2) == v);
    }

    private static PartCurves relayed(int t, int p, int v) {
        PartCurves x = Bench.busyOff();
        x.relay(t, p, v);
        return x;
    }

    private static PartCurves removedInHand() {
        PartCurves x = Bench.busyOff();
        x.remove(3);
        return x;
    }

    private static void promise8NoneInHand() {
        edge.refused("8 high at none", STATE, Bench::busyNoneInHand, x -> x.power(1));
        edge.refused("8 low at none", STATE, () -> relayed(1, 6, 0), x -> x.power(1));
        edge.refused("8 high at two", STATE, () -> relayed(0, 7, 1), x -> x.power(1));
        edge.refused("8 low at two", STATE, () -> relayed(1, 7, 1), x -> x.power(1));
        edge.refused("8 no part there", STATE, PinsEdgesTest::removedInHand, x -> x.power(1));
        edge.due("8 a sense at two is no harm", 0, () -> relayed(2, 7, 1), x -> x.power(1));
        edge.due("8 OFF without a part", 0, Bench::busyNoneInHand, x -> x.power(0));
        edge.due("8 OFF at first", 0, PartCurves::new, x -> x.power(0));
    }

    private static void promise8Order() {
        edge.refused("8 OUTSIDE ahead of STATE", OUTSIDE, Bench::busyNoneInHand,
                new int[] {-1, 2}, (x, v) -> x.power(v));
    }

    private static void promise9() {
        edge.range("9 v", 1, 20000, OUTSIDE, Bench::busy, (x, v) -> x.limit(v),
                (x, v, was) -> was == 20000 && x.now(3) == v && x.limit(5) == v);
        edge.range("9 v of a new object", 1, 20000, OUTSIDE, PartCurves::new, (x, v) -> x.limit(v),
                (x, v, was) -> was == 1000 && x.now(3) == v);
    }

    private static void promise10() {
        edge.range("10 v", 0, 200, OUTSIDE, Bench::busy, (x, v) -> x.leads(v),
                (x, v, was) -> was == 7 && x.now(4) == v && x.leads(5) == v);
        edge.range("10 v of a new object", 0, 200, OUTSIDE, PartCurves::new, (x, v) -> x.leads(v),
                (x, v, was) -> was == 0 && x.now(4) == v);
    }

    private static void promise11Range() {
        int[] due = {3, 2, 1, 20000, 7};
        edge.range("11 what", 0, 4, OUTSIDE, Bench::busy, (x, v) -> x.now(v), (x, v, answer) -> answer == due[v]);
        int[] atFirst = {Bench.NONE, 2, 0, 1000, 0};
        edge.range("11 what of a new object", 0, 4, OUTSIDE, PartCurves::new, (x, v) -> x.now(v),
                (x, v, answer) -> answer == atFirst[v]);
    }

    private static void promise11LeastInHand() {
        PartCurves x = new PartCurves();
        for (int n = 0; n < 4; n++) {
            x.part(n, n % 2 == 0 ? 0 : 7, n % 2 == 0 ? 7 : 0, 0);
        }
        Bench.bring(x, 7, 0);
        for (int n = 0; n < 4; n++) {
            check.due("11 the least is " + n, n, x.now(0));
            x.remove(n);
        }
        check.due("11 none is left", Bench.NONE, x.now(0));
        x.part(3, 7, 0, 0);
        check.due("11 the last", 3, x.now(0));
        int[][] halves = {{7, 1}, {1, 7}, {0, 1}, {1, 0}, {6, 1}};
        for (int[] half : halves) {
            x.part(0, half[0], half[1], 0);
            check.due("11 not between both: " + half[0] + " and " + half[1], 3, x.now(0));
        }
        x.part(0, 0, 7, 0);
        check.due("11 the first again", 0, x.now(0));
    }

    private static void promise11OnePinAlone() {
        PartCurves x = new PartCurves();
        x.part(0, 2, 3, 0);
        int[][] steps = {{0, 2, 1}, {1, 3, 1}, {0, 7, 1}, {0, 2, 0}, {0, 7, 0}, {0, 2, 1}, {1, 0, 1}, {1, 3, 0},
            {1, 0, 0}, {1, 3, 1}, {2, 3, 1}, {3, 2, 1}, {2, 0, 1}};
        boolean[] inHand = {false, true, false, false, false, true, false, false, false, true, true, true, true};
        for (int i = 0; i < steps.length; i++) {
            x.relay(steps[i][0], steps[i][1], steps[i][2]);
            check.due("11 in hand behind relay " + i, inHand[i] ? 0 : Bench.NONE, x.now(0));
        }
        x.relay(0, 2, 0);
        x.relay(1, 3, 0);
        x.relay(0, 3, 1);
        x.relay(1, 2, 1);
        check.due("11 turned", 0, x.now(0));
    }

    private static void promise11SensesAlone() {
        PartCurves x = Bench.wired(0);
        int[][] steps = {{2, 0, 1}, {3, 1, 1}, {2, 7, 1}, {2, 0, 0}, {2, 7, 0}, {2, 0, 1}, {3, 0, 1}, {3, 1, 0},
            {3, 0, 0}, {3, 1, 1}, {2, 1, 1}, {2, 0, 0}};
        int[] wires = {2, 4, 2, 2, 2, 4, 2, 2, 2, 4, 2, 2};
        for (int i = 0; i < steps.length; i++) {
            x.relay(steps[i][0], steps[i][1], steps[i][2]);
            check.due("11 wires behind relay " + i, wires[i], x.now(1));
        }
    }

    /** There is no "PIN of HIGH" to sense, if HIGH is at none or at several; so for LOW. */
    private static void promise11SensesWithoutAPin() {
        int[][] steps = {{2, 0, 1}, {3, 1, 1}, {0, 0, 1}, {1, 1, 1}, {1, 2, 1}, {3, 2, 1}, {3, 1, 0}, {1, 1, 0},
            {0, 7, 1}, {2, 7, 1}, {2, 0, 0}, {0, 0, 0}, {2, 7, 0}, {0, 7, 0}, {3, 2, 0}, {1, 2, 0}};
        int[] wires = {2, 2, 2, 4, 2, 2, 2, 4, 2, 2, 2, 4, 2, 2, 2, 2};
        PartCurves x = new PartCurves();
        for (int i = 0; i < steps.length; i++) {
            x.relay(steps[i][0], steps[i][1], steps[i][2]);
            check.due("11 wires without a part, relay " + i, wires[i], x.now(1));
        }
    }
}
