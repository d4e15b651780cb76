/** The boundaries of promise 14: ranges, room, HEAT and BURNT, the knees of a SNAP; and those of promise 15. */
public final class PulsesEdgesTest {
    private static final int OUTSIDE = Bench.OUTSIDE, STATE = Bench.STATE, FULL = Bench.FULL;

    private static final Check check = new Check("PulsesEdgesTest");
    private static final Edge edge = new Edge(check);

    public static void main(String[] args) {
        promise14Ranges();
        promise14States();
        promise14Room();
        promise14Order();
        promise14Told();
        promise14HeatIsCutDown();
        promise14HeatOfVoltsBehindLeads();
        promise14MostHeat();
        promise14BurntAt1000();
        promise14StaysBurnt();
        promise14HeatOfOneAlone();
        promise14OpensAtK();
        promise14OpensByVoltsFound();
        promise14FoundAnew();
        promise14OpensTurned();
        promise14OthersNeverOpen();
        promise14ShutsBelowM();
        promise14ShutsTurned();
        promise14ShutsByItsReading();
        promise14BurntSnaps();
        promise15Range();
        promise15Cools();
        promise15Times();
        promise15Greatest();
        check.end();
    }

    // ---- 14, refusals

    private static void promise14Ranges() {
        edge.range("14 v", -3000, 3000, OUTSIDE, Bench::busy, (x, v) -> x.pulse(v, 1),
                (x, v, count) -> count == 11 && x.reading(10, 0) == v + 10000);
        edge.range("14 v of the first one", -3000, 3000, OUTSIDE, Bench::strongLine, (x, v) -> x.pulse(v, 1),
                (x, v, count) -> count == 1 && x.reading(0, 0) == v + 10000 && x.reading(0, 2) == v + 50000);
        edge.range("14 w", 1, 50, OUTSIDE, Bench::strongLine, (x, v) -> x.pulse(1000, v),
                (x, v, count) -> count == 1 && x.ofPart(0, 3) == 2 * v);
    }

    private static void promise14States() {
        edge.refused("14 power OFF", STATE, Bench::busyOff, x -> x.pulse(0, 1));
        edge.refused("14 none in hand", STATE, Bench::busyNoneInHand, x -> x.pulse(0, 1));
        edge.refused("14 a new object", STATE, PartCurves::new, x -> x.pulse(0, 1));
        edge.due("14 power ON", 11, Bench::busy, x -> x.pulse(0, 1));
    }

    private static void promise14Room() {
        edge.refused("14 60 readings", FULL, Bench::busyFull, x -> x.pulse(0, 1));
        edge.refused("14 60 readings, hot", FULL, Bench::busyFull, x -> x.pulse(-3000, 50));
        edge.due("14 59 readings", 60, () -> Bench.busy(59), x -> x.pulse(0, 1));
        edge.due("14 58 readings", 59, () -> Bench.busy(58), x -> x.pulse(0, 1));
        PartCurves x = Bench.busy(59);
        x.pulse(-5, 1);
        check.due("14 the last one's volts", 9995, x.reading(59, 0));
        check.due("14 the first one's volts", 11000, x.reading(0, 0));
        check.due("14 one more", FULL, x.pulse(-5, 1));
        check.due("14 60 still", 60, x.many(1));
        check.due("14 cleared", 60, x.clear());
        check.due("14 room again", 1, x.pulse(-5, 1));
    }

    private static void promise14Order() {
        edge.refused("14 v ahead of STATE", OUTSIDE, Bench::busyOff, new int[] {-3001, 3001}, (x, v) -> x.pulse(v, 1));
        edge.refused("14 w ahead of STATE", OUTSIDE, Bench::busyOff, new int[] {0, 51}, (x, v) -> x.pulse(0, v));
        edge.refused("14 v ahead of FULL", OUTSIDE, Bench::busyFull, new int[] {-3001, 3001}, (x, v) -> x.pulse(v, 1));
        edge.refused("14 w ahead of FULL", OUTSIDE, Bench::busyFull, new int[] {0, 51}, (x, v) -> x.pulse(0, v));
        edge.refused("14 STATE ahead of FULL", STATE, Bench::busyFullOff, x -> x.pulse(0, 1));
        edge.refused("14 all at once", OUTSIDE, Bench::busyFullOff, x -> x.pulse(3001, 0));
    }

    // ---- 14, what is read

    private static void read(String what, PartCurves x, int told, int amps, int rule) {
        int k = x.many(1) - 1;
        check.due("14 " + what + ", told", told + 10000, x.reading(k, 1));
        check.due("14 " + what + ", amps", amps + 50000, x.reading(k, 2));
        check.due("14 " + what + ", rule", rule, x.reading(k, 3));
    }

    private static void promise14Told() {
        PartCurves x = Bench.strongLine();
        x.leads(1);
        int[][] two = {{999, 999, 999, 0}, {1000, 999, 999, 2}, {1001, 1001, 1000, 2}, {-1, 0, 0, 2},
            {-2, -2, -1, 2}, {-1001, -1001, -1000, 2}, {-1002, -1001, -1000, 2}, {0, 0, 0, 0}};
        for (int[] row : two) {
            x.pulse(row[0], 1);
            read("two wires, " + row[0], x, row[1], row[2], row[3]);
        }
        x.power(0);
        Bench.sensed(x);
        x.power(1);
        x.leads(200);
        x.limit(700);
        int[][] four = {{700, 700, 700, 0}, {701, 700, 700, 1}, {-700, -700, -700, 0}, {-3000, -700, -700, 1}};
        for (int[] row : four) {
            x.pulse(row[0], 1);
            read("four wires, " + row[0], x, row[1], row[2], row[3]);
        }
    }

    // ---- 14, HEAT

    private static void warmed(int v, int g, int w, int due) {
        PartCurves x = Bench.strongLine();
        x.set(0, 0, g);
        x.pulse(v, w);
        check.due("14 heat of " + v + " at g " + g + " for " + w, due, x.ofPart(0, 3));
    }

    private static void promise14HeatIsCutDown() {
        warmed(0, 5000, 50, 0);
        warmed(127, 1000, 31, 0);
        warmed(-127, 1000, 31, 0);
        warmed(100, 1000, 50, 1);
        warmed(-100, 1000, 50, 1);
        warmed(1000, 500, 1, 1);
        warmed(101, 1000, 50, 1);
        warmed(1001, 999, 1, 1);
        warmed(1000, 1000, 1, 2);
        warmed(-1000, 1000, 1, 2);
        warmed(1001, 1000, 1, 2);
        warmed(3000, 1000, 50, 900);
        warmed(-3000, 1, 50, 0);
        warmed(-3000, 2, 50, 1);
    }

    private static void promise14HeatOfVoltsBehindLeads() {
        PartCurves x = Bench.strongLine();
        x.leads(100);
        x.pulse(1099, 1);
        check.due("14 999 at 999 behind leads", 1, x.ofPart(0, 3));
        x.pulse(1100, 1);
        check.due("14 1000 at 1000 behind leads", 3, x.ofPart(0, 3));
        x.leads(0);
        x.limit(1000);
        x.pulse(3000, 1);
        check.due("14 1000 at the limit", 5, x.ofPart(0, 3));
        x.limit(999);
        x.pulse(3000, 1);
        check.due("14 999 at the limit", 6, x.ofPart(0, 3));
    }

    private static void promise14MostHeat() {
        PartCurves x = Bench.wired(2);
        x.set(0, 0, 5000);
        x.set(0, 1, 1);
        x.set(0, 2, 2000);
        x.limit(20000);
        x.power(1);
        x.pulse(-3000, 50);
        read("the most amps", x, -2857, -19994, 1);
        check.due("14 heat goes to 1000 alone", 1000, x.ofPart(0, 3));
        check.due("14 2857 at 19994 for 50", 5712 - 999, x.why(1, 1));
    }

    /** A LINE of HEAT as told (below 1000), without READINGS. */
    private static PartCurves heated(int heat) {
        PartCurves x = Bench.strongLine();
        for (int left = heat; left > 0; left -= Math.min(left, 100)) {
            if (left % 2 == 1) {
                x.pulse(100, 50);
                left--;
            }
            if (left > 0) {
                x.pulse(1000, Math.min(left, 100) / 2);
            }
        }
        check.due("heated", heat, x.ofPart(0, 3));
        x.clear();
        return x;
    }

    private static void burns(int heat, int v, int w, int due, int above) {
        PartCurves x = heated(heat);
        check.due("14 it is read", 1, x.pulse(v, w));
        check.due("14 " + heat + " and more, heat", due, x.ofPart(0, 3));
        check.due("14 " + heat + " and more, burnt", above > 0 ? 1 : 0, x.ofPart(0, 4));
        check.due("14 how many are burnt", above > 0 ? 1 : 0, x.many(3));
        check.due("14 first sort", above > 0 ? 2 : Bench.NONE, x.why(0, 0));
        check.due("14 first number", above > 0 ? 0 : Bench.NONE, x.why(0, 1));
        check.due("14 second sort", above > 0 ? 3 : Bench.NONE, x.why(1, 0));
        check.due("14 second number", above > 0 ? above : Bench.NONE, x.why(1, 1));
        check.due("14 no third", Bench.NONE, x.why(2, 0));
        check.due("14 read with the heat ahead of it", v + 50000, x.reading(0, 2));
    }

    private static void promise14BurntAt1000() {
        burns(998, 99, 50, 998, 0);
        burns(998, 100, 50, 999, 0);
        burns(998, 1000, 1, 1000, 1);
        burns(999, 99, 50, 999, 0);
        burns(999, 100, 50, 1000, 1);
        burns(999, -1000, 1, 1000, 2);
        burns(900, 995, 50, 999, 0);
        burns(900, 1000, 50, 1000, 1);
        burns(900, 1005, 50, 1000, 2);
        burns(0, 3000, 50, 900, 0);
    }

    private static void promise14StaysBurnt() {
        PartCurves x = heated(999);
        x.pulse(100, 50);
        check.due("14 causes", 1, x.why(1, 1));
        x.pulse(3000, 50);
        read("a burnt one", x, 3000, 0, 0);
        check.due("14 burnt still", 1, x.ofPart(0, 4));
        check.due("14 1000 still", 1000, x.ofPart(0, 3));
        check.due("14 it was burnt ahead", Bench.NONE, x.why(0, 0));
        x.rest(1);
        x.pulse(3000, 50);
        check.due("14 burnt, when cooler", 937, x.ofPart(0, 3));
        check.due("14 burnt, when cooler", 1, x.ofPart(0, 4));
        x.rest(100);
        check.due("14 burnt and cold", 1, x.ofPart(0, 4));
        x.set(0, 0, 5000);
        check.due("14 no set mends it", 1, x.ofPart(0, 4));
        x.power(0);
        x.power(1);
        check.due("14 no power mends it", 1, x.ofPart(0, 4));
        x.power(0);
        x.part(0, 0, 1, 0);
        check.due("14 a new one is not", 0, x.ofPart(0, 4));
    }

    private static void promise14HeatOfOneAlone() {
        PartCurves x = Bench.wired(0);
        for (int n = 1; n < 4; n++) {
            x.part(n, 0, 1, 0);
        }
        x.limit(20000);
        Bench.on(x).pulse(1000, 50);
        check.due("14 the part in hand", 100, x.ofPart(0, 3));
        for (int n = 1; n < 4; n++) {
            check.due("14 one beside it", 0, x.ofPart(n, 3));
        }
    }

    // ---- 14, SNAPS

    private static PartCurves snap(int k, int h, int m) {
        return snapOf(Bench.wired(3), k, h, m);
    }

    private static PartCurves snapOf(PartCurves x, int k, int h, int m) {
        x.set(0, 1, k);
        x.set(0, 2, h);
        x.set(0, 3, m);
        x.limit(20000);
        return Bench.on(x);
    }

    private static void open(String what, int due, PartCurves x, int v) {
        x.pulse(v, 1);
        check.due("14 " + what + " at " + v + ": open", due, x.ofPart(0, 5));
    }

    private static void promise14OpensAtK() {
        for (int k : new int[] {1, 2, 600, 1999, 2000}) {
            open("k " + k + ", just below", 0, snap(k, 0, 0), k - 1);
            open("k " + k, 1, snap(k, 0, 0), k);
            open("k " + k + ", just above", 1, snap(k, 0, 0), k + 1);
            open("k " + k + ", the other way", 0, snap(k, 0, 0), -k);
            open("k " + k + ", far the other way", 0, snap(k, 0, 0), -3000);
        }
        PartCurves x = snap(600, 0, 0);
        open("k", 1, x, 600);
        read("open by this pulse", x, 600, 600, 0);
        open("it stays open below k", 1, x, 1);
        read("open below k", x, 1, 1, 0);
    }

    /** It is u that opens it, neither the FORCED nor the TOLD volts. */
    private static void promise14OpensByVoltsFound() {
        PartCurves x = snap(500, 10, 0);
        x.limit(4);
        open("the limit holds u at 499", 0, x, 3000);
        read("held at 499", x, 499, 4, 1);
        x.limit(5);
        open("the limit lets u by 500", 1, x, 3000);
        x = snap(500, 2000, 0);
        x.leads(200);
        open("the leads hold u at 499", 0, x, 699);
        read("held at 499", x, 698, 998, 2);
        open("the leads let u to 500", 1, x, 700);
        read("found anew", x, 700, 584, 2);
        x = snap(500, 2000, 0);
        x.leads(200);
        x.power(0);
        Bench.sensed(x);
        x.power(1);
        open("four wires, 499", 0, x, 499);
        open("four wires, 500", 1, x, 500);
        read("four wires", x, 500, 500, 0);
    }

    private static void promise14FoundAnew() {
        PartCurves x = snap(500, 0, 0);
        x.limit(499);
        open("open, though u then is below k", 1, x, 500);
        read("the limit of the open one", x, 499, 499, 1);
        check.due("14 heat of what is found anew", 0, x.ofPart(0, 3));
        x = snap(500, 2000, 0);
        x.limit(1000);
        open("open, u then is farther", 1, x, 3000);
        read("farther than by h", x, 1000, 1000, 1);
        check.due("14 heat of what is found anew", 2, x.ofPart(0, 3));
        x = snap(2000, 0, 0);
        x.limit(1);
        open("from 2000 to 1", 1, x, 2000);
        read("from 2000 to 1", x, 1, 1, 1);
    }

    private static void promise14OpensTurned() {
        for (int k : new int[] {1, 600, 2000}) {
            open("turned, k " + k + ", just below", 0, snapOf(Bench.turned(3), k, 0, 0), 1 - k);
            open("turned, k " + k, 1, snapOf(Bench.turned(3), k, 0, 0), -k);
            open("turned, k " + k + ", just above", 1, snapOf(Bench.turned(3), k, 0, 0), -k - 1);
            open("turned, k " + k + ", the other way", 0, snapOf(Bench.turned(3), k, 0, 0), k);
            open("turned, k " + k + ", far the other way", 0, snapOf(Bench.turned(3), k, 0, 0), 3000);
        }
    }

    private static void promise14OthersNeverOpen() {
        for (int kind = 0; kind < 3; kind++) {
            PartCurves x = snapOf(Bench.wired(kind), 1, 0, 0);
            open("kind " + kind, 0, x, 2000);
            open("kind " + kind, 0, x, -2000);
        }
    }

    private static void shuts(int m, int v, int due) {
        PartCurves x = snap(1, 0, 0);
        x.set(0, 0, v == 0 ? 1000 : 5000);
        open("ahead of it", 1, x, 1);
        x.set(0, 3, m);
        open("m " + m, due, x, v);
    }

    private static void promise14ShutsBelowM() {
        shuts(0, 0, 1);
        shuts(0, 1, 1);
        shuts(0, -1, 0);
        shuts(1, 0, 0);
        shuts(5, 0, 0);
        shuts(4, 1, 1);
        shuts(5, 1, 1);
        shuts(6, 1, 0);
        shuts(4999, 1000, 1);
        shuts(5000, 1000, 1);
        shuts(5000, 999, 0);
        shuts(5000, -3000, 0);
        PartCurves x = snap(500, 0, 500);
        open("it opens, and does not shut at m", 1, x, 500);
        x = snap(500, 0, 501);
        open("it opens and shuts below m", 0, x, 500);
        read("the reading is of the open one", x, 500, 500, 0);
        check.due("14 so is the heat", 0, x.ofPart(0, 3));
        x.pulse(499, 1);
        read("shut behind it", x, 499, 0, 0);
    }

    private static void promise14ShutsTurned() {
        PartCurves x = snapOf(Bench.turned(3), 300, 0, 300);
        open("turned, opens", 1, x, -300);
        open("turned, at m", 1, x, -300);
        open("turned, just above m", 1, x, -301);
        open("turned, just below m", 0, x, -299);
        x.set(0, 3, 0);
        open("turned, opens", 1, x, -300);
        open("turned, none", 1, x, 0);
        open("turned, the other way", 0, x, 1);
    }

    /** The OWN AMPS that shut it are those of the READING, not those by the HEAT or the LIMIT behind it. */
    private static void promise14ShutsByItsReading() {
        PartCurves x = snap(1000, 0, 1000);
        x.set(0, 4, 5);
        x.pulse(1000, 50);
        read("cold", x, 1000, 1000, 0);
        check.due("14 it is warm", 100, x.ofPart(0, 3));
        check.due("14 its amps are less now", 50666, x.amps(0, 1000));
        check.due("14 it is open", 1, x.ofPart(0, 5));
        open("warm", 0, x, 1000);
        read("warm", x, 1000, 666, 0);
        x = snap(500, 0, 300);
        x.limit(299);
        open("the limit keeps it below m", 0, x, 3000);
        x.limit(300);
        open("the limit lets it to m", 1, x, 3000);
    }

    private static void promise14BurntSnaps() {
        PartCurves x = snap(600, 0, 5000);
        x.set(0, 0, 5000);
        x.pulse(3000, 50);
        check.due("14 burnt", 1, x.ofPart(0, 4));
        check.due("14 open, by the reading's amps", 1, x.ofPart(0, 5));
        x.set(0, 3, 0);
        open("burnt, 0 is not less than 0", 1, x, -3000);
        x.set(0, 3, 1);
        open("burnt, 0 is less than 1", 0, x, 3000);
        open("burnt ones do not open", 0, x, 600);
        open("burnt ones do not open", 0, x, 3000);
        x.set(0, 3, 0);
        open("burnt ones do not open, nor would 0 amps shut it", 0, x, 3000);
        x = snap(2000, 2000, 0);
        x.limit(3998);
        x.pulse(3000, 50);
        x.pulse(3000, 50);
        check.due("14 burnt, shut", 10, 10 * x.ofPart(0, 4) + x.ofPart(0, 5));
        open("burnt ones that were shut do not open", 0, x, 3000);
        read("burnt, shut", x, 3000, 0, 0);
    }

    // ---- 15

    private static int cooled(int heat, int times) {
        int left = heat;
        for (int i = 0; i < times; i++) {
            left -= (left + 15) / 16;
        }
        return left;
    }

    private static void promise15Range() {
        edge.range("15 n", 0, 100, OUTSIDE, Bench::busy, (x, v) -> x.rest(v),
                (x, v, most) -> most == cooled(1000, v) && x.ofPart(1, 3) == most);
        edge.range("15 n without parts", 0, 100, OUTSIDE, PartCurves::new, (x, v) -> x.rest(v),
                (x, v, most) -> most == 0);
        edge.range("15 n without power", 0, 100, OUTSIDE, Bench::busyOff, (x, v) -> x.rest(v),
                (x, v, most) -> most == cooled(1000, v));
    }

    private static void promise15Cools() {
        int[] heat = {0, 1, 2, 15, 16, 17, 18, 31, 32, 33, 34, 48, 49, 998, 999};
        int[] due = {0, 0, 1, 14, 15, 15, 16, 29, 30, 30, 31, 45, 45, 935, 936};
        for (int i = 0; i < heat.length; i++) {
            PartCurves x = heated(heat[i]);
            check.due("15 a rest of 0 at " + heat[i], heat[i], x.rest(0));
            check.due("15 a rest of 1 at " + heat[i], due[i], x.rest(1));
            check.due("15 the heat itself", due[i], x.ofPart(0, 3));
        }
        PartCurves x = heated(999);
        x.pulse(100, 50);
        check.due("15 burnt, 1000", 937, x.rest(1));
        check.due("15 burnt still", 1, x.ofPart(0, 4));
        check.due("15 causes stay", 1, x.why(1, 1));
    }

    private static void promise15Times() {
        for (int times : new int[] {1, 2, 3, 50, 99, 100}) {
            PartCurves at = heated(999);
            check.due("15 " + times + " times at once", cooled(999, times), at.rest(times));
            PartCurves each = heated(999);
            int last = 999;
            for (int i = 0; i < times; i++) {
                last = each.rest(1);
            }
            check.due("15 " + times + " times, one by one", cooled(999, times), last);
        }
    }

    private static void promise15Greatest() {
        PartCurves x = heated(998);
        x.power(0);
        x.part(3, 2, 3, 0);
        Bench.on(Bench.bring(x, 2, 3)).pulse(1000, 8);
        check.due("15 the first is the greatest", 998, x.rest(0));
        check.due("15 all cool", 935, x.rest(1));
        check.due("15 the last, too", 15, x.ofPart(3, 3));
        x.power(0);
        x.part(0, 0, 1, 0);
        check.due("15 the last is the greatest", 15, x.rest(0));
        x.remove(3);
        check.due("15 one that is gone does not count", 0, x.rest(0));
        x.remove(0);
        check.due("15 there is none", 0, x.rest(1));
        x.part(3, 2, 3, 0);
        check.due("15 a new one is cold", 0, x.rest(0));
    }
}
