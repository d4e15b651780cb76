/** Edges of calls, each tried on an object that is made anew: no object comes near its 512th call. */
final class Edge {
    interface Maker {
        PartCurves anew();
    }

    interface Call {
        long on(PartCurves x);
    }

    interface CallWith {
        long on(PartCurves x, int v);
    }

    /** Whether a call with v, which answered that, did on x what is due. */
    interface Done {
        boolean as(PartCurves x, int v, long answer);
    }

    private final Check check;

    Edge(Check check) {
        this.check = check;
    }

    /** The call answers a refusal, and all other calls show what they show without it. */
    void refused(String what, long due, Maker maker, Call call) {
        PartCurves x = maker.anew();
        check.due(what, due, call.on(x));
        check.same(what + " changed nothing: it", Shown.of(maker.anew()), Shown.of(x));
    }

    void refused(String what, long due, Maker maker, int[] numbers, CallWith call) {
        for (int v : numbers) {
            refused(what + " " + v, due, maker, x -> call.on(x, v));
        }
    }

    /** The calls with these numbers are not refused. */
    void taken(String what, Maker maker, int[] numbers, CallWith call, Done done) {
        for (int v : numbers) {
            PartCurves x = maker.anew();
            long answer = call.on(x, v);
            check.holds(what + " " + v + " is taken (answer " + answer + ")", done.as(x, v, answer));
        }
    }

    /** Just outside, and far outside, is refused; on the edges and just inside is taken. */
    void range(String what, int least, int most, long refusal, Maker maker, CallWith call, Done done) {
        refused(what, refusal, maker,
                new int[] {least - 1, most + 1, Integer.MIN_VALUE, Integer.MAX_VALUE}, call);
        taken(what, maker, new int[] {least, least + 1, most - 1, most}, call, done);
    }

    /** The call answers what is due, on an object as told. */
    void due(String what, long due, Maker maker, Call call) {
        check.due(what, due, call.on(maker.anew()));
    }
}
