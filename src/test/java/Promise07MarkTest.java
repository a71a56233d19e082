/** Promise 7: "Marks (bits 1, 2, 4) of a call become these." */
public final class Promise07MarkTest {
    private static final int LOW = Integer.MIN_VALUE;
    private static final int HIGH = Integer.MAX_VALUE;

    public static void main(String[] args) {
        Due.of("promise 7, mark");
        everyMark();
        marksAreReplaced();
        firstAndLastCall();
        inEveryState();
        hoaxLeavesTheCallWhereItIs();
        unknownCalls();
        marksOutOfRange();
        unknownGoesBeforeRange();
        Due.end();
    }

    private static void everyMark() {
        for (int marks = 0; marks < 8; marks++) {
            int m = marks;
            CallJoin x = Sample.alone(3);
            x.mark(1, m);
            Due.is("marks " + marks, m, () -> x.callAt(1, 2));
            Due.is("the call before", 0, () -> x.callAt(0, 2));
            Due.is("the call behind", 0, () -> x.callAt(2, 2));
            Due.is("hoaxes", m >= 4 ? 1 : 0, () -> x.count(3));
        }
    }

    private static void marksAreReplaced() {
        CallJoin x = Sample.alone(1);
        for (int from = 0; from < 8; from++) {
            for (int to = 0; to < 8; to++) {
                x.mark(0, from);
                x.mark(0, to);
                int want = to;
                Due.is("marks " + from + ", then " + to, want, () -> x.callAt(0, 2));
            }
        }
    }

    private static void firstAndLastCall() {
        CallJoin x = Sample.full();
        x.mark(0, 7);
        x.mark(119, 5);
        Due.is("call 0", 7, () -> x.callAt(0, 2));
        Due.is("call 119", 5, () -> x.callAt(119, 2));
        Due.is("hoaxes", 2, () -> x.count(3));
    }

    private static void inEveryState() {
        for (int call : new int[] {0, 1, 2, 3, 4}) {
            CallJoin x = Sample.mixed();
            x.mark(call, 6);
            Due.is("call " + call + " in whatever event", 6, () -> x.callAt(call, 2));
        }
    }

    private static void hoaxLeavesTheCallWhereItIs() {
        CallJoin x = Sample.chain(3);
        x.mark(0, 4);
        Due.is("its event", 0, () -> x.callAt(0, 0));
        Due.is("those that it joined", 0, () -> x.callAt(1, 1));
        Due.is("the event's calls", 3, () -> x.eventAt(0, 1));
        Due.is("the event's first call", 0, () -> x.eventAt(0, 5));
        Due.is("the event's state", 0, () -> x.eventAt(0, 0));
        Due.is("its weight is less", 8, () -> x.eventAt(0, 3));
    }

    private static void unknownCalls() {
        Sight.refusedFor("call", Due.UNKNOWN, Sample::mixed, (x, call) -> x.mark(call, 7), -1, 8, LOW, HIGH);
        Sight.refusedFor("new: call", Due.UNKNOWN, CallJoin::new, (x, call) -> x.mark(call, 7), -1, 0);
        Sight.refusedFor("full: call", Due.UNKNOWN, Sample::full, (x, call) -> x.mark(call, 7), -1, 120);
        leavesNothingForTheNextCall();
    }

    /** A mark that a refused call left where the next call comes to stand would be seen only then. */
    private static void leavesNothingForTheNextCall() {
        CallJoin x = Sample.alone(2);
        Due.refuses("the next call", Due.UNKNOWN, () -> x.mark(2, 7));
        x.call(9, 0, -1, 0, -1, 2);
        Due.is("has no marks when it comes", 0, () -> x.callAt(2, 2));
    }

    private static void marksOutOfRange() {
        for (int call = 0; call < 8; call++) {
            int c = call;
            Sight.refusedFor("call " + call + ", marks", Due.RANGE, Sample::mixed, (x, marks) -> x.mark(c, marks), -1, 8, LOW, HIGH);
        }
    }

    private static void unknownGoesBeforeRange() {
        Sight.refused("unknown call, marks", Due.UNKNOWN, Sample::mixed, x -> x.mark(8, 8));
        Sight.refused("unknown call, marks", Due.UNKNOWN, Sample::mixed, x -> x.mark(-1, -1));
    }
}
