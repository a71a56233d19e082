/** Promise 17: "How many 0 calls, 1 events, 2 open ones, 3 calls marked as a hoax." */
public final class Promise17CountTest {
    private static final int LOW = Integer.MIN_VALUE;
    private static final int HIGH = Integer.MAX_VALUE;

    public static void main(String[] args) {
        Due.of("promise 17, count");
        nothing();
        callsUpToTheLast();
        eventsUpToTheLast();
        openOnes();
        hoaxes();
        splitAndMerge();
        refusedCallsAreNotCounted();
        changesNothing();
        unknownWhats();
        Due.end();
    }

    private static void counts(String what, CallJoin x, int... want) {
        for (int i = 0; i < 4; i++) {
            int w = i;
            Due.is(what + ": count(" + i + ")", want[i], () -> x.count(w));
        }
    }

    private static void nothing() {
        counts("new", new CallJoin(), 0, 0, 0, 0);
        CallJoin x = new CallJoin();
        x.rule(0, 1, 1, 1, 1);
        x.weight(0, 0, 5);
        x.point(0, 0);
        x.reasonFor(1, 0, 0, 1, 0, 5);
        counts("no call has come", x, 0, 0, 0, 0);
    }

    private static void callsUpToTheLast() {
        counts("one", Sample.chain(1), 1, 1, 1, 0);
        counts("119", Sample.chain(119), 119, 1, 1, 0);
        counts("120", Sample.chain(120), 120, 1, 1, 0);
    }

    private static void eventsUpToTheLast() {
        counts("59", Sample.alone(59), 59, 59, 59, 0);
        counts("60", Sample.alone(60), 60, 60, 60, 0);
        counts("full", Sample.full(), 120, 60, 60, 0);
    }

    private static void openOnes() {
        CallJoin x = Sample.alone(4);
        x.state(0, 1);
        counts("one handed over", x, 4, 4, 3, 0);
        x.state(3, 2);
        counts("one closed", x, 4, 4, 2, 0);
        x.state(0, 2);
        counts("the handed-over one closed", x, 4, 4, 2, 0);
        x.state(0, 0);
        counts("open again", x, 4, 4, 3, 0);
        x.merge(1, 2);
        counts("one merged", x, 4, 4, 2, 0);
        x.state(0, 1);
        x.state(2, 1);
        counts("none open", x, 4, 4, 0, 0);
    }

    private static void hoaxes() {
        CallJoin x = Sample.alone(8);
        for (int marks = 0; marks < 8; marks++) {
            x.mark(marks, marks);
        }
        counts("all marks", x, 8, 8, 8, 4);
        x.mark(4, 4);
        counts("a hoax again", x, 8, 8, 8, 4);
        x.mark(7, 3);
        counts("one less", x, 8, 8, 8, 3);
        x.state(5, 2);
        counts("in a closed event", x, 8, 8, 7, 3);
        CallJoin y = Sample.full();
        for (int call = 0; call < 120; call++) {
            y.mark(call, 4);
        }
        counts("all 120", y, 120, 60, 60, 120);
    }

    private static void splitAndMerge() {
        CallJoin x = Sample.chain(3);
        x.split(1);
        counts("one split off", x, 3, 2, 2, 0);
        x.merge(1, 0);
        counts("and merged again", x, 3, 2, 1, 0);
        x.split(1);
        counts("and split off again", x, 3, 3, 2, 0);
    }

    private static void refusedCallsAreNotCounted() {
        CallJoin x = Sample.full();
        Due.refuses("a 121st", Due.ROOM, () -> x.call(0, 0, -1, 0, -1, 119));
        counts("a 121st", x, 120, 60, 60, 0);
        CallJoin y = Sample.alone(60);
        Due.refuses("a 61st event", Due.ROOM, () -> y.call(99, 0, -1, 0, -1, 60));
        counts("a 61st event", y, 60, 60, 60, 0);
        CallJoin z = new CallJoin();
        Due.refuses("a kind that is none", Due.UNKNOWN, () -> z.call(0, 8, -1, 0, -1, 0));
        Due.refuses("a line that is none", Due.RANGE, () -> z.call(1000, 0, -1, 0, -1, 0));
        counts("kinds and lines that are none", z, 0, 0, 0, 0);
    }

    private static void changesNothing() {
        for (int what = 0; what < 4; what++) {
            int w = what;
            Sight.unchanged("count " + what, Sample::mixed, x -> x.count(w));
        }
    }

    private static void unknownWhats() {
        Sight.refusedFor("what", Due.UNKNOWN, Sample::mixed, CallJoin::count, -1, 4, LOW, HIGH);
        Sight.refusedFor("new: what", Due.UNKNOWN, CallJoin::new, CallJoin::count, -1, 4);
    }
}
