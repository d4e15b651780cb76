/** The boundaries of promise 13 and of FORCED volts: LIMIT, LEADS, the wires, RULE, a PART that is turned. */
public final class ForcedEdgesTest {
    private static final Check check = new Check("ForcedEdgesTest");
    private static final Edge edge = new Edge(check);

    public static void main(String[] args) {
        ranges();
        states();
        atNothing();
        atLimit();
        atFlatAmps();
        atLeastLimit();
        atMostLimit();
        atLeads();
        atLeastLeads();
        atMostLeads();
        ruleOfBoth();
        wires();
        turned();
        burntOnes();
        snapAsItIs();
        check.end();
    }

    private static PartCurves wired(int kind, int g, int limit, int leads) {
        PartCurves x = Bench.wired(kind);
        x.set(0, 0, g);
        x.limit(limit);
        x.leads(leads);
        return x;
    }

    /** Rows of v, u, AMPS, RULE. */
    private static void would(String what, PartCurves x, int[][] rows) {
        for (int[] row : rows) {
            check.due("13 " + what + ", u for " + row[0], row[1] + 10000, x.would(row[0], 0));
            check.due("13 " + what + ", amps for " + row[0], row[2] + 50000, x.would(row[0], 1));
            check.due("13 " + what + ", rule for " + row[0], row[3], x.would(row[0], 2));
        }
    }

    private static void ranges() {
        edge.range("13 v, power ON", -3000, 3000, Bench.OUTSIDE, Bench::strongLine, (x, v) -> x.would(v, 0),
                (x, v, answer) -> answer == v + 10000);
        edge.range("13 v, power OFF", -3000, 3000, Bench.OUTSIDE, () -> wired(0, 1000, 20000, 0),
                (x, v) -> x.would(v, 1), (x, v, answer) -> answer == v + 50000);
        edge.range("13 what", 0, 2, Bench.OUTSIDE, Bench::strongLine, (x, v) -> x.would(5, v),
                (x, v, answer) -> answer == (v == 0 ? 10005 : v == 1 ? 50005 : 0));
    }

    private static void states() {
        edge.refused("13 none in hand", Bench.STATE, Bench::busyNoneInHand, new int[] {0, 1, 2},
                (x, v) -> x.would(0, v));
        edge.refused("13 a new object", Bench.STATE, PartCurves::new, x -> x.would(0, 0));
        edge.refused("13 v ahead of STATE", Bench.OUTSIDE, Bench::busyNoneInHand, new int[] {-3001, 3001},
                (x, v) -> x.would(v, 0));
        edge.refused("13 what ahead of STATE", Bench.OUTSIDE, Bench::busyNoneInHand, new int[] {-1, 3},
                (x, v) -> x.would(0, v));
        for (int what = 0; what < 3; what++) {
            PartCurves x = Bench.busy();
            check.holds("13 taken", x.would(3000, what) >= 0);
            check.same("13 nothing is changed: it", Shown.of(Bench.busy()), Shown.of(x));
        }
    }

    private static void atNothing() {
        would("at 0", wired(0, 5000, 1, 200), new int[][] {{0, 0, 0, 0}});
        would("at 0", wired(2, 5000, 1, 200), new int[][] {{0, 0, 0, 0}});
        would("no leads, no limit in reach", wired(0, 1000, 20000, 0), new int[][] {
            {1, 1, 1, 0}, {-1, -1, -1, 0}, {3000, 3000, 3000, 0}, {-3000, -3000, -3000, 0}});
    }

    private static void atLimit() {
        would("limit 700", wired(0, 1000, 700, 0), new int[][] {
            {699, 699, 699, 0}, {700, 700, 700, 0}, {701, 700, 700, 1}, {3000, 700, 700, 1},
            {-699, -699, -699, 0}, {-700, -700, -700, 0}, {-701, -700, -700, 1}, {-3000, -700, -700, 1}});
        PartCurves x = wired(0, 1000, 700, 0);
        x.limit(701);
        would("limit 701", x, new int[][] {{701, 701, 701, 0}, {702, 701, 701, 1}});
        x.limit(699);
        would("limit 699", x, new int[][] {{700, 699, 699, 1}, {-700, -699, -699, 1}});
    }

    /** Of several volts with the same AMPS the farthest. */
    private static void atFlatAmps() {
        would("two a millionth", wired(0, 500, 10, 0), new int[][] {
            {20, 20, 10, 0}, {21, 21, 10, 0}, {22, 21, 10, 1}, {3000, 21, 10, 1},
            {-19, -19, -10, 0}, {-20, -20, -10, 0}, {-21, -20, -10, 1}, {-3000, -20, -10, 1}});
        would("a knee", wired(1, 1000, 1, 0), new int[][] {
            {600, 600, 0, 0}, {601, 601, 1, 0}, {602, 601, 1, 1}, {-3000, -3000, 0, 0}});
        would("two knees", wired(2, 1000, 1, 0), new int[][] {
            {602, 601, 1, 1}, {-601, -601, -1, 0}, {-602, -601, -1, 1}});
    }

    private static void atLeastLimit() {
        would("the least limit is passed at once", wired(0, 5000, 1, 0), new int[][] {
            {1, 0, 0, 1}, {-1, 0, 0, 1}, {3000, 0, 0, 1}, {-3000, 0, 0, 1}});
        would("limit 4 of 5", wired(0, 5000, 4, 0), new int[][] {{1, 0, 0, 1}, {-1, 0, 0, 1}});
        would("limit 5 of 5", wired(0, 5000, 5, 0), new int[][] {
            {1, 1, 5, 0}, {2, 1, 5, 1}, {-1, -1, -5, 0}, {-2, -1, -5, 1}});
        would("limit 6 of 5", wired(0, 5000, 6, 0), new int[][] {{2, 1, 5, 1}, {-2, -1, -5, 1}});
        would("1 at 1, but 2 at -1", wired(0, 1500, 1, 0), new int[][] {{1, 1, 1, 0}, {2, 1, 1, 1}, {-1, 0, 0, 1}});
        PartCurves x = Bench.turned(0);
        x.set(0, 0, 1500);
        x.limit(1);
        would("turned, 2 at 1, but 1 at -1", x, new int[][] {{1, 0, 0, 1}, {-1, -1, -1, 0}, {-2, -1, -1, 1}});
    }

    private static void atMostLimit() {
        PartCurves x = wired(2, 5000, 20000, 0);
        x.set(0, 1, 1);
        x.set(0, 2, 2000);
        would("7 u and -5", x, new int[][] {
            {2857, 2857, 19994, 0}, {2858, 2857, 19994, 1}, {3000, 2857, 19994, 1},
            {-2857, -2857, -19994, 0}, {-2858, -2857, -19994, 1}, {-3000, -2857, -19994, 1}});
        x.limit(19994);
        would("just at it", x, new int[][] {{3000, 2857, 19994, 1}, {-3000, -2857, -19994, 1}});
        x.limit(19993);
        would("just below it", x, new int[][] {{3000, 2856, 19987, 1}, {-3000, -2856, -19987, 1}});
    }

    private static void atLeads() {
        would("leads 100", wired(0, 1000, 20000, 100), new int[][] {
            {9, 9, 9, 0}, {10, 9, 9, 2}, {11, 10, 10, 2}, {1098, 999, 999, 2}, {1099, 999, 999, 2},
            {1100, 1000, 1000, 2}, {1101, 1001, 1001, 2},
            {-1099, -999, -999, 2}, {-1100, -1000, -1000, 2}, {-1101, -1000, -1000, 2}, {-1102, -1001, -1001, 2}});
    }

    /** [AMPS times LEADS] is -1 from -1 on, but 0 up to 999. */
    private static void atLeastLeads() {
        would("leads 1", wired(0, 1000, 20000, 1), new int[][] {
            {1, 1, 1, 0}, {998, 998, 998, 0}, {999, 999, 999, 0}, {1000, 999, 999, 2}, {1001, 1000, 1000, 2},
            {-1, 0, 0, 2}, {-2, -1, -1, 2}, {-1000, -999, -999, 2}, {-1001, -1000, -1000, 2},
            {-1002, -1000, -1000, 2}, {-1003, -1001, -1001, 2}});
        would("leads 0", wired(0, 1000, 20000, 0), new int[][] {{1000, 1000, 1000, 0}, {-1, -1, -1, 0}});
    }

    private static void atMostLeads() {
        would("as far as one goes", wired(0, 5000, 20000, 200), new int[][] {
            {2999, 1499, 7495, 2}, {3000, 1500, 7500, 2}, {-2999, -1499, -7495, 2}, {-3000, -1500, -7500, 2},
            {1, 0, 0, 2}, {2, 1, 5, 2}, {3, 1, 5, 2}, {4, 2, 10, 2}, {-1, 0, 0, 2}, {-2, -1, -5, 2}});
        PartCurves x = wired(1, 5000, 20000, 200);
        would("no amps, no drop", x, new int[][] {{600, 600, 0, 0}, {601, 600, 0, 2}, {602, 601, 5, 2},
            {-3000, -3000, 0, 0}});
    }

    private static void ruleOfBoth() {
        PartCurves x = wired(0, 1000, 500, 200);
        would("the drop alone", x, new int[][] {{599, 499, 499, 2}, {-599, -499, -499, 2}});
        would("both at the next one", x, new int[][] {{600, 500, 500, 1}, {-600, -500, -500, 1}});
        would("the limit alone", x, new int[][] {{602, 500, 500, 1}, {3000, 500, 500, 1}, {-3000, -500, -500, 1}});
        x.limit(501);
        would("one more", x, new int[][] {{600, 500, 500, 2}, {601, 501, 501, 1}, {-601, -500, -500, 2}});
        x.limit(499);
        would("one less", x, new int[][] {{600, 499, 499, 1}, {598, 499, 499, 1}, {597, 498, 498, 2}});
    }

    private static void wires() {
        int[][] two = {{600, 500, 500, 2}, {-600, -500, -500, 2}};
        int[][] four = {{600, 600, 600, 0}, {-600, -600, -600, 0}};
        PartCurves x = wired(0, 1000, 20000, 200);
        would("no senses", x, two);
        x.relay(2, 0, 1);
        would("sense high alone", x, two);
        x.relay(3, 1, 1);
        would("four", x, four);
        x.relay(2, 0, 0);
        would("sense low alone", x, two);
        x.relay(2, 0, 1);
        x.relay(3, 2, 1);
        would("sense low at another one, too", x, two);
        x.relay(3, 2, 0);
        would("four again", x, four);
        x.limit(599);
        would("the limit with four", x, new int[][] {{599, 599, 599, 0}, {600, 599, 599, 1}});
        x.limit(1);
        would("the least limit with four", x, new int[][] {{1, 1, 1, 0}, {2, 1, 1, 1}, {-2, -1, -1, 1}});
    }

    /** 0 less OWN AMPS at -u: what is cut to below then is cut to above. */
    private static void turned() {
        PartCurves x = Bench.turned(0);
        x.set(0, 0, 1);
        would("turned", x, new int[][] {{1, 1, 1, 0}, {1000, 1000, 1, 0}, {1001, 1001, 2, 0},
            {-1, -1, 0, 0}, {-999, -999, 0, 0}, {-1000, -1000, -1, 0}});
        x.limit(1);
        would("turned, with a limit", x, new int[][] {{1000, 1000, 1, 0}, {1001, 1000, 1, 1}, {3000, 1000, 1, 1},
            {-1999, -1999, -1, 0}, {-2000, -1999, -1, 1}, {-3000, -1999, -1, 1}});
        x.leads(200);
        would("turned, with leads", x, new int[][] {{1, 1, 1, 0}, {1000, 1000, 1, 0}, {-999, -999, 0, 0},
            {-1000, -999, 0, 2}, {-1001, -1000, -1, 2}});
        x = Bench.turned(1);
        would("a turned knee", x, new int[][] {{3000, 3000, 0, 0}, {-600, -600, 0, 0}, {-601, -601, -1, 0},
            {-1600, -1600, -1000, 0}, {-1601, -1600, -1000, 1}});
    }

    private static void burntOnes() {
        PartCurves x = Bench.strongLine();
        x.pulse(3000, 50);
        x.pulse(3000, 50);
        check.due("13 burnt", 1, x.ofPart(0, 4));
        x.limit(1);
        x.leads(200);
        would("burnt", x, new int[][] {{3000, 3000, 0, 0}, {-3000, -3000, 0, 0}, {0, 0, 0, 0}, {1, 1, 0, 0}});
    }

    private static void snapAsItIs() {
        PartCurves x = wired(3, 1000, 1000, 0);
        would("shut, at k and beyond", x, new int[][] {{599, 599, 0, 0}, {600, 600, 0, 0}, {3000, 3000, 0, 0}});
        check.due("13 it is shut still", 0, x.ofPart(0, 5));
        Bench.on(x).pulse(600, 1);
        would("open, below k", x, new int[][] {{1, 1, 1, 0}, {599, 599, 599, 0}, {1001, 1000, 1000, 1}});
        check.due("13 it is open still", 1, x.ofPart(0, 5));
        x.set(0, 3, 5000);
        would("open, below m", x, new int[][] {{1, 1, 1, 0}, {-1, -1, -1, 0}});
        check.due("13 it is open still", 1, x.ofPart(0, 5));
    }
}
