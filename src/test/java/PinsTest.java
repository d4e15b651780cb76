/** Promises 1 to 11. */
public final class PinsTest {
    private static final Check check = new Check("PinsTest");

    public static void main(String[] args) {
        promise1NewObject();
        promise1ObjectsApart();
        promise2Part();
        promise2PartAnew();
        promise2PartRefused();
        promise3Remove();
        promise4Set();
        promise4SetRefused();
        promise5OfPart();
        promise6Relay();
        promise6RelayRefused();
        promise7Pins();
        promise8Power();
        promise9Limit();
        promise10Leads();
        promise11InHand();
        promise11Wires();
        promise11Now();
        check.end();
    }

    private static void promise1NewObject() {
        PartCurves x = new PartCurves();
        for (int what = 0; what <= 5; what++) {
            check.due("1 many(" + what + ")", 0, x.many(what));
        }
        for (int n = 0; n < 4; n++) {
            check.due("1 ofPart", Bench.UNKNOWN, x.ofPart(n, 0));
            check.due("1 pins", 0, x.pins(n));
        }
        check.due("1 now(0)", Bench.NONE, x.now(0));
        check.due("1 now(1)", 2, x.now(1));
        check.due("1 now(2)", 0, x.now(2));
        check.due("1 now(3)", 1000, x.now(3));
        check.due("1 now(4)", 0, x.now(4));
        check.due("1 reading", Bench.UNKNOWN, x.reading(0, 0));
        check.due("1 why", Bench.NONE, x.why(0, 0));
        check.due("1 clear", 0, x.clear());
        check.due("1 rest", 0, x.rest(1));
    }

    private static void promise1ObjectsApart() {
        PartCurves one = Bench.on(Bench.wired(0));
        one.pulse(5, 1);
        PartCurves two = new PartCurves();
        check.due("1 other's parts", 0, two.many(0));
        check.due("1 other's readings", 0, two.many(1));
        check.due("1 other's relays", 0, two.many(2));
        check.due("1 own readings", 1, one.many(1));
    }

    private static void promise2Part() {
        PartCurves x = new PartCurves();
        check.due("2 first", 0, x.part(0, 0, 7, 0));
        check.due("2 again", 1, x.part(0, 7, 0, 3));
        check.due("2 last", 0, x.part(3, 2, 6, 2));
        check.due("2 its first pin", 7, x.ofPart(0, 0));
        check.due("2 its other pin", 0, x.ofPart(0, 1));
        check.due("2 its kind", 3, x.ofPart(0, 2));
        check.due("2 its first pin", 2, x.ofPart(3, 0));
        check.due("2 its other pin", 6, x.ofPart(3, 1));
        check.due("2 its kind", 2, x.ofPart(3, 2));
        check.due("2 how many", 2, x.many(0));
        check.due("2 two parts between the same pins", 0, x.part(1, 2, 6, 1));
        x.remove(1);
        check.due("2 behind remove", 0, x.part(1, 2, 6, 1));
    }

    private static void promise2PartAnew() {
        PartCurves x = Bench.wired(3);
        x.set(0, 0, 5000);
        x.set(0, 1, 100);
        x.set(0, 2, 2000);
        x.set(0, 3, 1);
        x.set(0, 4, 1);
        x.limit(20000);
        x.power(1);
        x.pulse(3000, 50);
        check.due("2 burnt", 1, x.ofPart(0, 4));
        check.due("2 open", 1, x.ofPart(0, 5));
        check.due("2 hot", 1000, x.ofPart(0, 3));
        x.power(0);
        check.due("2 a new one", 1, x.part(0, 0, 1, 3));
        int[] atFirst = {1000, 600, 0, 0, 0};
        for (int k = 0; k < 5; k++) {
            check.due("2 number " + k, atFirst[k], x.ofPart(0, 10 + k));
        }
        check.due("2 cold", 0, x.ofPart(0, 3));
        check.due("2 not burnt", 0, x.ofPart(0, 4));
        check.due("2 shut", 0, x.ofPart(0, 5));
    }

    private static void promise2PartRefused() {
        PartCurves x = new PartCurves();
        check.due("2 n", Bench.UNKNOWN, x.part(-1, 0, 1, 0));
        check.due("2 n", Bench.UNKNOWN, x.part(4, 0, 1, 0));
        check.due("2 first", Bench.UNKNOWN, x.part(0, -1, 1, 0));
        check.due("2 first", Bench.UNKNOWN, x.part(0, 8, 1, 0));
        check.due("2 other", Bench.UNKNOWN, x.part(0, 0, -1, 0));
        check.due("2 other", Bench.UNKNOWN, x.part(0, 0, 8, 0));
        check.due("2 far n", Bench.UNKNOWN, x.part(Integer.MAX_VALUE, 0, 1, 0));
        check.due("2 far pin", Bench.UNKNOWN, x.part(0, Integer.MIN_VALUE, 1, 0));
        check.due("2 kind", Bench.OUTSIDE, x.part(0, 0, 1, -1));
        check.due("2 kind", Bench.OUTSIDE, x.part(0, 0, 1, 4));
        check.due("2 one pin", Bench.STATE, x.part(0, 3, 3, 0));
        check.due("2 UNKNOWN ahead of OUTSIDE", Bench.UNKNOWN, x.part(4, 0, 0, 4));
        check.due("2 UNKNOWN ahead of OUTSIDE", Bench.UNKNOWN, x.part(0, 8, 8, 4));
        check.due("2 OUTSIDE ahead of STATE", Bench.OUTSIDE, x.part(0, 3, 3, 4));
        check.due("2 nothing came", 0, x.many(0));
        x = Bench.on(Bench.wired(0));
        check.due("2 power", Bench.STATE, x.part(0, 0, 1, 3));
        check.due("2 power", Bench.STATE, x.part(2, 5, 6, 3));
        check.due("2 OUTSIDE ahead of power", Bench.OUTSIDE, x.part(2, 5, 6, 4));
        check.due("2 UNKNOWN ahead of power", Bench.UNKNOWN, x.part(5, 5, 6, 3));
        check.due("2 kind as it was", 0, x.ofPart(0, 2));
        check.due("2 one still", 1, x.many(0));
    }

    private static void promise3Remove() {
        PartCurves x = Bench.wired(1);
        check.due("3 n", Bench.UNKNOWN, x.remove(-1));
        check.due("3 n", Bench.UNKNOWN, x.remove(4));
        check.due("3 not there", Bench.UNKNOWN, x.remove(3));
        x.power(1);
        check.due("3 power", Bench.STATE, x.remove(0));
        check.due("3 UNKNOWN ahead of STATE", Bench.UNKNOWN, x.remove(1));
        check.due("3 still there", 1, x.many(0));
        x.power(0);
        check.due("3 gone", 1, x.remove(0));
        check.due("3 none", 0, x.many(0));
        check.due("3 again", Bench.UNKNOWN, x.remove(0));
        check.due("3 not in hand", Bench.NONE, x.now(0));
        check.due("3 nothing of it", Bench.UNKNOWN, x.ofPart(0, 0));
        check.due("3 relays stay", 2, x.many(2));
    }

    private static void promise4Set() {
        int[] first = {1000, 600, 0, 0, 0};
        int[] least = {1, 1, 0, 0, 0};
        int[] most = {5000, 2000, 2000, 5000, 5};
        PartCurves x = new PartCurves();
        x.part(2, 3, 4, 3);
        x.part(1, 3, 4, 3);
        for (int k = 0; k < 5; k++) {
            check.due("4 most of " + k, first[k], x.set(2, k, most[k]));
            check.due("4 above of " + k, Bench.OUTSIDE, x.set(2, k, most[k] + 1));
            check.due("4 least of " + k, most[k], x.set(2, k, least[k]));
            check.due("4 below of " + k, Bench.OUTSIDE, x.set(2, k, least[k] - 1));
            check.due("4 is of " + k, least[k], x.ofPart(2, 10 + k));
            check.due("4 another part's " + k, first[k], x.ofPart(1, 10 + k));
        }
        for (int k = 0; k < 5; k++) {
            check.due("4 kept " + k, least[k], x.set(2, k, most[k]));
        }
    }

    private static void promise4SetRefused() {
        PartCurves x = Bench.on(Bench.wired(0));
        check.due("4 n", Bench.UNKNOWN, x.set(-1, 0, 1));
        check.due("4 n", Bench.UNKNOWN, x.set(4, 0, 1));
        check.due("4 not there", Bench.UNKNOWN, x.set(1, 0, 1));
        check.due("4 which", Bench.OUTSIDE, x.set(0, -1, 1));
        check.due("4 which", Bench.OUTSIDE, x.set(0, 5, 1));
        check.due("4 far v", Bench.OUTSIDE, x.set(0, 0, Integer.MIN_VALUE));
        check.due("4 UNKNOWN ahead of OUTSIDE", Bench.UNKNOWN, x.set(1, 5, 1));
        check.due("4 as it was", 1000, x.ofPart(0, 10));
        check.due("4 under power", 1000, x.set(0, 0, 2000));
        check.due("4 and it counts", 50200, x.would(100, 1));
    }

    private static void promise5OfPart() {
        PartCurves x = new PartCurves();
        check.due("5 not there", Bench.UNKNOWN, x.ofPart(1, 0));
        x.part(1, 6, 2, 3);
        int[] due = {6, 2, 3, 0, 0, 0};
        for (int what = 0; what < 6; what++) {
            check.due("5 what " + what, due[what], x.ofPart(1, what));
        }
        int[] numbers = {1000, 600, 0, 0, 0};
        for (int k = 0; k < 5; k++) {
            check.due("5 number " + k, numbers[k], x.ofPart(1, 10 + k));
        }
        check.due("5 what", Bench.OUTSIDE, x.ofPart(1, -1));
        check.due("5 what", Bench.OUTSIDE, x.ofPart(1, 6));
        check.due("5 what", Bench.OUTSIDE, x.ofPart(1, 9));
        check.due("5 what", Bench.OUTSIDE, x.ofPart(1, 15));
        check.due("5 n", Bench.UNKNOWN, x.ofPart(-1, 0));
        check.due("5 n", Bench.UNKNOWN, x.ofPart(4, 0));
        check.due("5 UNKNOWN ahead of OUTSIDE", Bench.UNKNOWN, x.ofPart(0, 6));
        x.set(1, 1, 100);
        x.relay(0, 6, 1);
        x.relay(1, 2, 1);
        x.power(1);
        x.pulse(500, 50);
        check.due("5 open", 1, x.ofPart(1, 5));
        check.due("5 heat", 25, x.ofPart(1, 3));
    }

    private static void promise6Relay() {
        PartCurves x = new PartCurves();
        check.due("6 close", 0, x.relay(0, 0, 1));
        check.due("6 close again", 1, x.relay(0, 0, 1));
        check.due("6 open", 1, x.relay(0, 0, 0));
        check.due("6 open again", 0, x.relay(0, 0, 0));
        check.due("6 last", 0, x.relay(3, 7, 1));
        check.due("6 other terminal", 0, x.relay(2, 7, 1));
        check.due("6 high with senses", 0, x.relay(0, 7, 1));
        check.due("6 low elsewhere", 0, x.relay(1, 6, 1));
        check.due("6 how many", 4, x.many(2));
    }

    private static void promise6RelayRefused() {
        PartCurves x = new PartCurves();
        check.due("6 t", Bench.UNKNOWN, x.relay(-1, 0, 1));
        check.due("6 t", Bench.UNKNOWN, x.relay(4, 0, 1));
        check.due("6 p", Bench.UNKNOWN, x.relay(0, -1, 1));
        check.due("6 p", Bench.UNKNOWN, x.relay(0, 8, 1));
        check.due("6 p of a shift", Bench.UNKNOWN, x.relay(0, 32, 1));
        check.due("6 v", Bench.OUTSIDE, x.relay(0, 0, -1));
        check.due("6 v", Bench.OUTSIDE, x.relay(0, 0, 2));
        check.due("6 UNKNOWN ahead of OUTSIDE", Bench.UNKNOWN, x.relay(0, 8, 2));
        x.relay(0, 5, 1);
        x.relay(1, 4, 1);
        check.due("6 low to high's", Bench.STATE, x.relay(1, 5, 1));
        check.due("6 high to low's", Bench.STATE, x.relay(0, 4, 1));
        check.due("6 OUTSIDE ahead of STATE", Bench.OUTSIDE, x.relay(1, 5, 2));
        check.due("6 opening is no short", 0, x.relay(1, 5, 0));
        check.due("6 a sense to low's", 0, x.relay(2, 4, 1));
        check.due("6 a sense to high's", 0, x.relay(3, 5, 1));
        check.due("6 both senses at one", 0, x.relay(3, 4, 1));
        check.due("6 high", 1 << 5, x.pins(0));
        check.due("6 low", 1 << 4, x.pins(1));
        x.part(0, 4, 5, 0);
        x.power(1);
        check.due("6 power, open", Bench.STATE, x.relay(2, 4, 0));
        check.due("6 power, close", Bench.STATE, x.relay(2, 0, 1));
        check.due("6 power, as it is", Bench.STATE, x.relay(2, 4, 1));
        check.due("6 OUTSIDE ahead of power", Bench.OUTSIDE, x.relay(2, 4, 2));
        check.due("6 UNKNOWN ahead of power", Bench.UNKNOWN, x.relay(4, 4, 1));
        check.due("6 nothing changed", 1 << 4, x.pins(2));
    }

    private static void promise7Pins() {
        PartCurves x = new PartCurves();
        x.relay(0, 0, 1);
        x.relay(0, 7, 1);
        x.relay(2, 3, 1);
        x.relay(3, 3, 1);
        check.due("7 high", 129, x.pins(0));
        check.due("7 low", 0, x.pins(1));
        check.due("7 sense high", 8, x.pins(2));
        check.due("7 sense low", 8, x.pins(3));
        x.relay(0, 0, 0);
        check.due("7 high", 128, x.pins(0));
        check.due("7 t", Bench.UNKNOWN, x.pins(-1));
        check.due("7 t", Bench.UNKNOWN, x.pins(4));
    }

    private static void promise8Power() {
        PartCurves x = new PartCurves();
        check.due("8 no part", Bench.STATE, x.power(1));
        check.due("8 off is off", 0, x.power(0));
        check.due("8 v", Bench.OUTSIDE, x.power(-1));
        check.due("8 OUTSIDE ahead of STATE", Bench.OUTSIDE, x.power(2));
        x = Bench.wired(0);
        check.due("8 on", 0, x.power(1));
        check.due("8 on again", 1, x.power(1));
        check.due("8 it is on", 1, x.now(2));
        check.due("8 v", Bench.OUTSIDE, x.power(2));
        check.due("8 still on", 1, x.now(2));
        check.due("8 off", 1, x.power(0));
        check.due("8 it is off", 0, x.now(2));
        x.relay(0, 5, 1);
        check.due("8 high at two", Bench.STATE, x.power(1));
    }

    private static void promise9Limit() {
        PartCurves x = Bench.on(Bench.wired(0));
        check.due("9 least", 1000, x.limit(1));
        check.due("9 most", 1, x.limit(20000));
        check.due("9 below", Bench.OUTSIDE, x.limit(0));
        check.due("9 above", Bench.OUTSIDE, x.limit(20001));
        check.due("9 kept", 20000, x.limit(7));
        check.due("9 told", 7, x.now(3));
        check.due("9 counts", 10007, x.would(100, 0));
    }

    private static void promise10Leads() {
        PartCurves x = Bench.on(Bench.wired(0));
        check.due("10 most", 0, x.leads(200));
        check.due("10 least", 200, x.leads(0));
        check.due("10 below", Bench.OUTSIDE, x.leads(-1));
        check.due("10 above", Bench.OUTSIDE, x.leads(201));
        check.due("10 kept", 0, x.leads(200));
        check.due("10 told", 200, x.now(4));
        check.due("10 counts", 10500, x.would(600, 0));
    }

    private static void promise11InHand() {
        PartCurves x = new PartCurves();
        x.part(3, 0, 1, 0);
        x.part(2, 1, 0, 0);
        x.part(1, 0, 2, 0);
        check.due("11 no terminals", Bench.NONE, x.now(0));
        x.relay(0, 0, 1);
        check.due("11 high alone", Bench.NONE, x.now(0));
        x.relay(1, 1, 1);
        check.due("11 the least of two, turned", 2, x.now(0));
        x.remove(2);
        check.due("11 the other", 3, x.now(0));
        x.relay(1, 2, 1);
        check.due("11 low at two", Bench.NONE, x.now(0));
        x.relay(1, 1, 0);
        check.due("11 another part's", 1, x.now(0));
        x.relay(0, 5, 1);
        check.due("11 high at two", Bench.NONE, x.now(0));
        x.relay(0, 0, 0);
        check.due("11 one pin fits", Bench.NONE, x.now(0));
        x.relay(0, 5, 0);
        check.due("11 high at none", Bench.NONE, x.now(0));
        x.relay(0, 1, 1);
        check.due("11 pins of two parts", Bench.NONE, x.now(0));
    }

    private static void promise11Wires() {
        PartCurves x = Bench.wired(0);
        check.due("11 two", 2, x.now(1));
        x.relay(2, 0, 1);
        check.due("11 a sense is missing", 2, x.now(1));
        x.relay(3, 1, 1);
        check.due("11 four", 4, x.now(1));
        x.relay(2, 6, 1);
        check.due("11 a sense more", 2, x.now(1));
        x.relay(2, 6, 0);
        x.relay(3, 6, 1);
        check.due("11 a sense more", 2, x.now(1));
        x.relay(3, 1, 0);
        check.due("11 a sense elsewhere", 2, x.now(1));
        x.relay(3, 6, 0);
        x.relay(2, 0, 0);
        x.relay(2, 1, 1);
        x.relay(3, 0, 1);
        check.due("11 senses crossed", 2, x.now(1));
        x = new PartCurves();
        check.due("11 nothing closed", 2, x.now(1));
        x.relay(0, 0, 1);
        x.relay(1, 1, 1);
        x.relay(2, 0, 1);
        x.relay(3, 1, 1);
        check.due("11 four without a part", 4, x.now(1));
        x.relay(0, 2, 1);
        x.relay(2, 2, 1);
        check.due("11 high at two pins", 2, x.now(1));
        x.relay(0, 2, 0);
        x.relay(2, 2, 0);
        check.due("11 four again", 4, x.now(1));
        x.relay(1, 3, 1);
        x.relay(3, 3, 1);
        check.due("11 low at two pins", 2, x.now(1));
    }

    private static void promise11Now() {
        PartCurves x = Bench.on(Bench.wired(2));
        x.limit(44);
        x.leads(55);
        check.due("11 in hand", 0, x.now(0));
        check.due("11 wires", 2, x.now(1));
        check.due("11 power", 1, x.now(2));
        check.due("11 limit", 44, x.now(3));
        check.due("11 leads", 55, x.now(4));
        check.due("11 what", Bench.OUTSIDE, x.now(-1));
        check.due("11 what", Bench.OUTSIDE, x.now(5));
    }
}
