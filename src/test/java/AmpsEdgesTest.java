/** The boundaries of promise 12 and of OWN AMPS: [x] below 0, the knees, HEAT that divides, BURNT ones. */
public final class AmpsEdgesTest {
    private static final Check check = new Check("AmpsEdgesTest");
    private static final Edge edge = new Edge(check);

    public static void main(String[] args) {
        ranges();
        cutToBelow();
        lineAtItsEdges();
        kneeAtItsEdges();
        bothTermsAreCut();
        twoKneesAtTheirEdges();
        snapAtItsEdges();
        heatCutsToBelow();
        heatAtItsEdges();
        burntOnes();
        check.end();
    }

    private static PartCurves part(int kind, int g, int k, int h) {
        PartCurves x = new PartCurves();
        x.part(0, 0, 1, kind);
        x.set(0, 0, g);
        x.set(0, 1, k);
        x.set(0, 2, h);
        return x;
    }

    private static void amps(String what, PartCurves x, int[] volts, int[] due) {
        for (int i = 0; i < volts.length; i++) {
            check.due("12 " + what + " at " + volts[i], due[i] + 50000, x.amps(0, volts[i]));
        }
    }

    private static void ranges() {
        edge.range("12 v", -3000, 3000, Bench.OUTSIDE, Bench::busy, (x, v) -> x.amps(0, v),
                (x, v, answer) -> Math.abs(answer - 50000) > 2400 && (answer > 50000) == v > 0);
        edge.range("12 v of a new part", -3000, 3000, Bench.OUTSIDE, () -> part(0, 1000, 1, 0),
                (x, v) -> x.amps(0, v), (x, v, answer) -> answer == v + 50000);
        edge.refused("12 n", Bench.UNKNOWN, Bench::busy,
                new int[] {-1, 2, 4, Integer.MIN_VALUE, Integer.MAX_VALUE}, (x, v) -> x.amps(v, 0));
        edge.taken("12 n", Bench::busy, new int[] {0, 1, 3}, (x, v) -> x.amps(v, 0),
                (x, v, answer) -> answer == 50000);
        edge.refused("12 UNKNOWN ahead of v", Bench.UNKNOWN, Bench::busy, new int[] {-1, 2, 4},
                (x, v) -> x.amps(v, 3001));
    }

    private static void cutToBelow() {
        amps("[x]", part(0, 1, 600, 0),
                new int[] {0, 1, 999, 1000, 1001, 1999, 2000, -1, -999, -1000, -1001, -2000, -2001},
                new int[] {0, 0, 0, 1, 1, 1, 2, -1, -1, -1, -2, -2, -3});
        amps("[x]", part(0, 999, 600, 0), new int[] {1, 1000, 1001, -1, -1000, -1001},
                new int[] {0, 999, 999, -1, -999, -1000});
        amps("[x]", part(0, 1001, 600, 0), new int[] {1, 999, 1000, -1, -999, -1000},
                new int[] {1, 999, 1001, -2, -1000, -1001});
    }

    private static void lineAtItsEdges() {
        amps("least g", part(0, 1, 1, 2000), new int[] {3000, 2999, -2999, -3000}, new int[] {3, 2, -3, -3});
        amps("most g", part(0, 5000, 1, 2000), new int[] {3000, 1, 0, -1, -3000},
                new int[] {15000, 5, 0, -5, -15000});
    }

    private static void kneeAtItsEdges() {
        amps("knee", part(1, 5000, 600, 0), new int[] {0, 599, 600, 601, 602, -599, -600, -601, -3000},
                new int[] {0, 0, 0, 5, 10, 0, 0, 0, 0});
        amps("the least k", part(1, 1000, 1, 0), new int[] {0, 1, 2, 3000, -1, -2},
                new int[] {0, 0, 1, 2999, 0, 0});
        amps("the most k", part(1, 1000, 2000, 0), new int[] {1999, 2000, 2001, 3000}, new int[] {0, 0, 1, 1000});
        amps("the most of all", part(1, 5000, 1, 2000), new int[] {3000, -3000, 1, 2},
                new int[] {6000 + 14995, -6000, 2, 4 + 5});
        amps("h of 1", part(1, 1000, 600, 1), new int[] {599, 600, 601, 1000, -1, -1000, -1001},
                new int[] {0, 0, 1, 1 + 400, -1, -1, -2});
    }

    /** 601 h is 300.5, 1 g is 0.5: cut each by itself they are 300 and 0, cut together they would be 301. */
    private static void bothTermsAreCut() {
        amps("two terms", part(1, 500, 600, 500), new int[] {600, 601, 602, -601},
                new int[] {300, 300, 302, -301});
        amps("two terms", part(2, 500, 600, 500), new int[] {601, -600, -601, -602},
                new int[] {300, -300, -301 - 1, -301 - 1});
    }

    private static void twoKneesAtTheirEdges() {
        amps("two knees", part(2, 5000, 600, 0), new int[] {599, 600, 601, -599, -600, -601, -602},
                new int[] {0, 0, 5, 0, 0, -5, -10});
        amps("two knees, cut", part(2, 1, 600, 0), new int[] {601, 1599, 1600, -600, -601, -1600, -1601},
                new int[] {0, 0, 1, 0, -1, -1, -2});
        amps("two knees, least k", part(2, 1000, 1, 0), new int[] {-1, -2, -3000, 1, 2},
                new int[] {0, -1, -2999, 0, 1});
        amps("two knees, most k", part(2, 1000, 2000, 0), new int[] {-1999, -2000, -2001, 2000, 2001},
                new int[] {0, 0, -1, 0, 1});
        amps("two knees, most of all", part(2, 5000, 1, 2000), new int[] {3000, -3000},
                new int[] {20995, -20995});
    }

    private static void snapAtItsEdges() {
        PartCurves x = part(3, 5000, 600, 1);
        amps("shut, beyond k too", x, new int[] {599, 600, 1000, 3000, -1, -1000, -3000},
                new int[] {0, 0, 1, 3, -1, -1, -3});
        x.limit(20000);
        Bench.on(Bench.bring(x, 0, 1)).pulse(600, 1);
        amps("open, below k too", x, new int[] {1, 599, 600, 3000, -1, -3000},
                new int[] {5, 2995, 3000, 15000, -5, -15000});
        amps("h of 0, shut", part(3, 5000, 1, 0), new int[] {3000, 1, 0, -1, -3000}, new int[] {0, 0, 0, 0, 0});
    }

    /** A LINE of g 1000, HEAT and c as told. */
    private static PartCurves warm(int heat, int c) {
        PartCurves x = Bench.wired(0);
        x.limit(20000);
        x.power(1);
        for (int left = heat; left > 0; left -= Math.min(left, 100)) {
            x.pulse(1000, Math.min(left, 100) / 2);
        }
        x.set(0, 4, c);
        check.due("12 heat", heat, x.ofPart(0, 3));
        return x;
    }

    private static void heatCutsToBelow() {
        amps("1500 by 1000", warm(500, 1), new int[] {0, 1, 2, 3, 1499, 1500, 1501, -1, -2, -3, -1500, -1501},
                new int[] {0, 0, 1, 2, 999, 1000, 1000, -1, -2, -2, -1000, -1001});
        amps("least heat there is here", warm(2, 1), new int[] {1, 500, 501, 502, 1002, -1, -501, -502},
                new int[] {0, 499, 500, 500, 1000, -1, -500, -501});
    }

    private static void heatAtItsEdges() {
        int[] volts = {1, 1000, 3000, -1, -3000};
        amps("no heat", warm(0, 5), volts, new int[] {1, 1000, 3000, -1, -3000});
        amps("c of 0", warm(998, 0), volts, new int[] {1, 1000, 3000, -1, -3000});
        amps("c of 1", warm(998, 1), volts, new int[] {0, 500, 1501, -1, -1502});
        amps("c of 4", warm(500, 4), volts, new int[] {0, 333, 1000, -1, -1000});
        amps("c of 5", warm(998, 5), volts, new int[] {0, 166, 500, -1, -501});
    }

    private static void burntOnes() {
        for (int kind = 0; kind < 4; kind++) {
            PartCurves x = Bench.wired(kind);
            x.set(0, 0, 5000);
            x.set(0, 1, 1);
            x.limit(20000);
            x.power(1);
            check.holds("12 kind " + kind + " has amps", x.pulse(3000, 50) == 1 && x.ofPart(0, 4) == 1);
            amps("burnt, of kind " + kind, x, new int[] {3000, 1, 0, -1, -3000}, new int[] {0, 0, 0, 0, 0});
            x.rest(100);
            check.due("12 cold again", 0, x.ofPart(0, 3));
            amps("burnt and cold, of kind " + kind, x, new int[] {3000, -3000}, new int[] {0, 0});
            x.power(0);
            x.part(0, 0, 1, 0);
            amps("a new one", x, new int[] {3000, -3000}, new int[] {3000, -3000});
        }
    }
}
