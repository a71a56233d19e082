/** Promise 14: of a call its event, its reason, its marks, its kind, how it was joined. */
public final class Promise14CallAtTest {
    private static final int LOW = Integer.MIN_VALUE;
    private static final int HIGH = Integer.MAX_VALUE;

    public static void main(String[] args) {
        Due.of("promise 14, callAt");
        everyWayOfJoining();
        everyKind();
        everyMark();
        firstAndLastCall();
        afterASplit();
        afterAMerge();
        statesChangeNothing();
        unknownCalls();
        unknownWhats();
        Due.end();
    }

    private static void all(String what, CallJoin x, int call, int... want) {
        for (int i = 0; i < 5; i++) {
            int w = i;
            Due.is(what + ": callAt(" + call + ", " + i + ")", want[i], () -> x.callAt(call, w));
        }
    }

    private static void everyWayOfJoining() {
        CallJoin x = new CallJoin();
        x.point(2, 0);
        x.point(2, Due.at(100, 0));
        x.call(1, 3, Due.at(50, 0), 1, -1, 0);
        x.watch(0, 2, 0, 1);
        x.call(1, 4, -1, 0, -1, 0);
        x.call(2, 3, -1, 0, 2, 0);
        x.call(3, 3, Due.at(50, 60), 1, -1, 0);
        x.call(4, 3, -1, 1, -1, 0);
        x.call(5, 5, -1, 0, -1, 0);
        x.mark(4, 6);
        all("before the merge", x, 5, 1, -1, 0, 5, 0);
        x.merge(1, 4);
        all("first", x, 0, 0, -1, 0, 3, 0);
        all("again", x, 1, 0, 0, 0, 4, 1);
        all("stretch", x, 2, 0, 0, 0, 3, 2);
        all("place", x, 3, 0, 0, 0, 3, 3);
        all("words", x, 4, 0, 0, 6, 3, 4);
        all("by a merge", x, 5, 0, 4, 0, 5, 5);
    }

    private static void everyKind() {
        CallJoin x = Sample.alone(8);
        for (int kind = 0; kind < 8; kind++) {
            all("kind " + kind, x, kind, kind, -1, 0, kind, 0);
        }
    }

    private static void everyMark() {
        for (int marks = 0; marks < 8; marks++) {
            CallJoin x = Sample.chain(2);
            x.mark(1, marks);
            all("marks " + marks, x, 1, 0, 0, marks, 1, 1);
            all("the other with marks " + marks, x, 0, 0, -1, 0, 0, 0);
        }
    }

    private static void firstAndLastCall() {
        CallJoin x = Sample.full();
        all("the first of 120", x, 0, 0, -1, 0, 0, 0);
        all("the last event's", x, 59, 59, -1, 0, 3, 0);
        all("the first behind it", x, 60, 0, 0, 0, 0, 1);
        all("the last of 120", x, 119, 0, 118, 0, 0, 1);
    }

    private static void afterASplit() {
        CallJoin x = Sample.chain(3);
        x.split(1);
        all("the split one", x, 1, 1, -1, 0, 1, 0);
        all("the one behind it", x, 2, 1, 1, 0, 2, 1);
        all("the one before it", x, 0, 0, -1, 0, 0, 0);
    }

    private static void afterAMerge() {
        CallJoin x = Sample.chain(3);
        x.split(1);
        x.merge(0, 2);
        all("the merged one", x, 0, 1, 2, 0, 0, 5);
        all("the first one", x, 1, 1, -1, 0, 1, 0);
        x.split(0);
        all("the merged one, split again", x, 0, 2, -1, 0, 0, 0);
    }

    private static void statesChangeNothing() {
        for (int state = 1; state < 3; state++) {
            CallJoin x = Sample.chain(2);
            x.state(0, state);
            all("state " + state, x, 1, 0, 0, 0, 1, 1);
        }
    }

    private static void unknownCalls() {
        for (int what = 0; what < 5; what++) {
            int w = what;
            Sight.refusedFor("what " + what + ", call", Due.UNKNOWN, Sample::mixed, (x, call) -> x.callAt(call, w), -1, 8, LOW, HIGH);
            Sight.refusedFor("what " + what + ", new: call", Due.UNKNOWN, CallJoin::new, (x, call) -> x.callAt(call, w), -1, 0);
            Sight.refusedFor("what " + what + ", full: call", Due.UNKNOWN, Sample::full, (x, call) -> x.callAt(call, w), -1, 120);
        }
    }

    private static void unknownWhats() {
        for (int call = 0; call < 8; call++) {
            int c = call;
            Sight.refusedFor("call " + call + ", what", Due.UNKNOWN, Sample::mixed, (x, what) -> x.callAt(c, what), -1, 5, LOW, HIGH);
        }
        Sight.refused("neither is known", Due.UNKNOWN, Sample::mixed, x -> x.callAt(8, 5));
    }
}
