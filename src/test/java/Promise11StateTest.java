/** Promise 11: "An event becomes handed over (1), closed (2), or open again (0)." */
public final class Promise11StateTest {
    private static final int LOW = Integer.MIN_VALUE;
    private static final int HIGH = Integer.MAX_VALUE;

    public static void main(String[] args) {
        Due.of("promise 11, state");
        fromEveryStateToEveryOther();
        firstAndLastEvent();
        leavesTheCalls();
        unknownEvents();
        statesOutOfRange();
        itIsSo();
        itWasMerged();
        unknownGoesBeforeRange();
        rangeGoesBeforeState();
        Due.end();
    }

    private static CallJoin inState(int state) {
        CallJoin x = Sample.alone(3);
        if (state != 0) {
            x.state(1, state);
        }
        return x;
    }

    private static void fromEveryStateToEveryOther() {
        for (int from = 0; from < 3; from++) {
            for (int to = 0; to < 3; to++) {
                if (from != to) {
                    int want = to;
                    CallJoin x = inState(from);
                    x.state(1, to);
                    Due.is(from + " to " + to, want, () -> x.eventAt(1, 0));
                    Due.is("open ones", to == 0 ? 3 : 2, () -> x.count(2));
                    Due.is("the event before", 0, () -> x.eventAt(0, 0));
                    Due.is("the event behind", 0, () -> x.eventAt(2, 0));
                }
            }
        }
    }

    private static void firstAndLastEvent() {
        CallJoin x = Sample.alone(60);
        x.state(0, 1);
        x.state(59, 2);
        Due.is("event 0", 1, () -> x.eventAt(0, 0));
        Due.is("event 59", 2, () -> x.eventAt(59, 0));
        Due.is("open ones", 58, () -> x.count(2));
    }

    private static void leavesTheCalls() {
        for (int state = 1; state < 3; state++) {
            CallJoin x = Sample.chain(3);
            x.state(0, state);
            Due.is("calls", 3, () -> x.eventAt(0, 1));
            Due.is("weight", 12, () -> x.eventAt(0, 3));
            Due.is("first call", 0, () -> x.eventAt(0, 5));
            Due.is("latest time", 2, () -> x.eventAt(0, 6));
            Due.is("a reason", 1, () -> x.callAt(2, 1));
        }
    }

    private static void unknownEvents() {
        Sight.refusedFor("event", Due.UNKNOWN, Sample::mixed, (x, event) -> x.state(event, 2), -1, 5, LOW, HIGH);
        Sight.refusedFor("new: event", Due.UNKNOWN, CallJoin::new, (x, event) -> x.state(event, 2), -1, 0);
        Sight.refusedFor("full: event", Due.UNKNOWN, Sample::full, (x, event) -> x.state(event, 2), -1, 60);
        CallJoin y = Sample.alone(1);
        Due.refuses("the next event", Due.UNKNOWN, () -> y.state(1, 2));
        y.call(9, 0, -1, 0, -1, 0);
        Due.is("is open when it comes", 0, () -> y.eventAt(1, 0));
    }

    private static void statesOutOfRange() {
        for (int event = 0; event < 3; event++) {
            int e = event;
            Sight.refusedFor("event " + event + ", state", Due.RANGE, Sample::mixed, (x, s) -> x.state(e, s), -1, 3, LOW, HIGH);
        }
    }

    private static void itIsSo() {
        for (int state = 0; state < 3; state++) {
            int s = state;
            Sight.refused("it has state " + state, Due.STATE, () -> inState(s), x -> x.state(1, s));
        }
        Sight.refused("it is open again", Due.STATE, () -> {
            CallJoin x = inState(2);
            x.state(1, 0);
            return x;
        }, x -> x.state(1, 0));
    }

    private static void itWasMerged() {
        for (int state = 0; state < 3; state++) {
            int s = state;
            Sight.refused("merged, to state " + state, Due.STATE, Sample::mixed, x -> x.state(3, s));
        }
        Sight.refused("merged, and its calls split off again", Due.STATE, () -> {
            CallJoin x = Sample.mixed();
            x.split(3);
            return x;
        }, x -> x.state(3, 0));
    }

    private static void unknownGoesBeforeRange() {
        Sight.refused("unknown event, state", Due.UNKNOWN, Sample::mixed, x -> x.state(5, 3));
        Sight.refused("unknown event, state", Due.UNKNOWN, Sample::mixed, x -> x.state(-1, -1));
    }

    private static void rangeGoesBeforeState() {
        Sight.refused("merged, state 3", Due.RANGE, Sample::mixed, x -> x.state(3, 3));
        Sight.refused("merged, state -1", Due.RANGE, Sample::mixed, x -> x.state(3, -1));
    }
}
