/** All that the calls of an object show without a change, as text (some 340 calls at most). */
final class Shown {
    private final StringBuilder text = new StringBuilder();

    private Shown() {
    }

    static String of(PartCurves x) {
        Shown shown = new Shown();
        shown.parts(x);
        shown.pins(x);
        shown.flow(x);
        shown.readings(x);
        return shown.text.toString();
    }

    private void tell(String what, long... answers) {
        text.append(what);
        for (long answer : answers) {
            text.append(' ').append(answer);
        }
        text.append("; ");
    }

    private void parts(PartCurves x) {
        for (int n = 0; n < 4; n++) {
            if (x.ofPart(n, 0) == Bench.UNKNOWN) {
                tell("no part " + n);
                continue;
            }
            for (int what = 0; what < 6; what++) {
                tell("part " + n, what, x.ofPart(n, what));
            }
            for (int k = 10; k < 15; k++) {
                tell("part " + n, k, x.ofPart(n, k));
            }
            tell("own", x.amps(n, 3000), x.amps(n, -3000));
        }
    }

    private void pins(PartCurves x) {
        for (int t = 0; t < 4; t++) {
            tell("pins " + t, x.pins(t));
        }
        for (int what = 0; what < 5; what++) {
            tell("now " + what, x.now(what));
        }
    }

    private void flow(PartCurves x) {
        tell("would", x.would(3000, 0), x.would(3000, 1), x.would(-3000, 0), x.would(-3000, 1));
        tell("heat", x.rest(0));
        for (int k = 0; k < 3; k++) {
            tell("why " + k, x.why(k, 0), x.why(k, 1));
        }
        for (int what = 0; what < 6; what++) {
            tell("many " + what, x.many(what));
        }
    }

    private void readings(PartCurves x) {
        int last = x.many(1) - 1;
        for (int k = 0; k <= last; k++) {
            tell("reading " + k, x.reading(k, 0), x.reading(k, 1), x.reading(k, 2), x.reading(k, 3));
        }
        tell("behind them", x.reading(last + 1, 0));
        tell("found", x.knee(0, last), x.gap(0, last), x.fit(0, last, 0), x.fit(0, last, 2), x.fit(0, last, 4));
    }
}
