/** Objects as tests need them at first. */
final class Bench {
    static final int UNKNOWN = PartCurves.UNKNOWN;
    static final int OUTSIDE = PartCurves.OUTSIDE;
    static final int STATE = PartCurves.STATE;
    static final int FULL = PartCurves.FULL;
    static final int NONE = PartCurves.NONE;
    static final long LOST = PartCurves.LOST;

    private Bench() {
    }

    /** PART 0 of a kind, FIRST PIN 0, OTHER PIN 1, HIGH at 0 and LOW at 1, two wires, POWER OFF. */
    static PartCurves wired(int kind) {
        PartCurves x = new PartCurves();
        x.part(0, 0, 1, kind);
        x.relay(0, 0, 1);
        x.relay(1, 1, 1);
        return x;
    }

    /** As wired, but the FIRST PIN has LOW. */
    static PartCurves turned(int kind) {
        PartCurves x = new PartCurves();
        x.part(0, 1, 0, kind);
        x.relay(0, 0, 1);
        x.relay(1, 1, 1);
        return x;
    }

    static PartCurves sensed(PartCurves x) {
        x.relay(2, 0, 1);
        x.relay(3, 1, 1);
        return x;
    }

    static PartCurves on(PartCurves x) {
        x.power(1);
        return x;
    }

    /** A LINE with POWER ON and the highest LIMIT: PULSES of 3000 for 50 warm it by 900. */
    static PartCurves strongLine() {
        PartCurves x = wired(0);
        x.limit(20000);
        return on(x);
    }
}
