/** Objects as tests need them at first. */
final class Bench {
    static final int UNKNOWN = PartCurves.UNKNOWN;
    static final int OUTSIDE = PartCurves.OUTSIDE;
    static final int STATE = PartCurves.STATE;
    static final int FULL = PartCurves.FULL;
    static final int NONE = PartCurves.NONE;
    static final long LOST = PartCurves.LOST;

    private Bench() {
    }

    /** PART 0 of a kind, FIRST PIN 0, OTHER PIN 1, HIGH at 0 and LOW at 1, two wires, POWER OFF. */
    static PartCurves wired(int kind) {
        PartCurves x = new PartCurves();
        x.part(0, 0, 1, kind);
        x.relay(0, 0, 1);
        x.relay(1, 1, 1);
        return x;
    }

    /** As wired, but the FIRST PIN has LOW. */
    static PartCurves turned(int kind) {
        PartCurves x = new PartCurves();
        x.part(0, 1, 0, kind);
        x.relay(0, 0, 1);
        x.relay(1, 1, 1);
        return x;
    }

    static PartCurves sensed(PartCurves x) {
        x.relay(2, 0, 1);
        x.relay(3, 1, 1);
        return x;
    }

    static PartCurves on(PartCurves x) {
        x.power(1);
        return x;
    }

    /** A LINE with POWER ON and the highest LIMIT: PULSES of 3000 for 50 warm it by 900. */
    static PartCurves strongLine() {
        PartCurves x = wired(0);
        x.limit(20000);
        return on(x);
    }

    /** HIGH at one PIN alone and LOW at another one alone, no senses; POWER is OFF ahead of it and behind it. */
    static PartCurves bring(PartCurves x, int high, int low) {
        for (int t = 0; t < 4; t++) {
            int closed = x.pins(t);
            for (int p = 0; p < 8; p++) {
                if ((closed >> p & 1) != 0) {
                    x.relay(t, p, 0);
                }
            }
        }
        x.relay(0, high, 1);
        x.relay(1, low, 1);
        return x;
    }

    /**
     * An object of which each call shows something: PART 0 an OPEN, warm SNAP, PART 1 a BURNT LINE (three causes tell
     * why), PART 2 not there, PART 3 a warm LINE, turned and IN HAND; POWER ON, so many READINGS (4 .. 60).
     */
    static PartCurves busy(int readings) {
        PartCurves x = new PartCurves();
        x.limit(20000);
        x.leads(7);
        x.part(0, 2, 3, 3);
        x.set(0, 1, 500);
        x.part(1, 0, 1, 0);
        x.part(3, 6, 5, 0);
        on(bring(x, 2, 3)).pulse(1000, 50);
        x.power(0);
        on(bring(x, 5, 6)).sweep(1000, 1000 + 10 * (readings - 4), 10, 2, 0, 0);
        x.power(0);
        on(bring(x, 0, 1)).sweep(3000, 2999, 1, 50, 0, 0);
        x.power(0);
        return on(bring(x, 5, 6));
    }

    static PartCurves busy() {
        return busy(10);
    }

    /** As busy, but POWER is OFF. */
    static PartCurves busyOff() {
        PartCurves x = busy();
        x.power(0);
        return x;
    }

    /** As busyOff, and HIGH is at no PIN. */
    static PartCurves busyNoneInHand() {
        PartCurves x = busyOff();
        x.relay(0, 5, 0);
        return x;
    }

    /** As busy, but without room for another READING. */
    static PartCurves busyFull() {
        return busy(60);
    }

    static PartCurves busyFullOff() {
        PartCurves x = busyFull();
        x.power(0);
        return x;
    }
}
