/** Promise 15: of an event its state, how many calls, its kind, its weight, its point, its first call, the latest time. */
public final class Promise15EventAtTest {
    private static final int LOW = Integer.MIN_VALUE;
    private static final int HIGH = Integer.MAX_VALUE;

    public static void main(String[] args) {
        Due.of("promise 15, eventAt");
        oneCall();
        everyState();
        howManyCalls();
        kindOfTheFirstCall();
        weightByMarks();
        weightIsASum();
        greatestWeight();
        pointOfTheLowestCall();
        leastAndGreatestPoint();
        firstCall();
        latestTime();
        mergedEvent();
        firstAndLastEvent();
        unknownEvents();
        unknownWhats();
        Due.end();
    }

    private static void all(String what, CallJoin x, int event, int... want) {
        for (int i = 0; i < 7; i++) {
            int w = i;
            Due.is(what + ": eventAt(" + event + ", " + i + ")", want[i], () -> x.eventAt(event, w));
        }
    }

    private static void oneCall() {
        CallJoin x = new CallJoin();
        x.call(1, 3, Due.at(50, 7), 1, -1, 4);
        x.call(2, 6, -1, 1, -1, 5);
        all("with a point", x, 0, 0, 1, 3, 5, Due.at(50, 7), 0, 4);
        all("without one", x, 1, 0, 1, 6, 4, -1, 1, 5);
    }

    private static void everyState() {
        CallJoin x = Sample.mixed();
        int[] want = {0, 1, 2, 3, 0};
        for (int event = 0; event < 5; event++) {
            int e = event;
            Due.is("state of event " + event, want[event], () -> x.eventAt(e, 0));
        }
    }

    private static void howManyCalls() {
        for (int calls = 1; calls <= 120; calls += 7) {
            int want = calls;
            Due.is(calls + " calls", want, () -> Sample.chain(want).eventAt(0, 1));
        }
        Due.is("120 calls", 120, () -> Sample.chain(120).eventAt(0, 1));
        CallJoin x = Sample.chain(5);
        x.mark(0, 4);
        x.mark(4, 7);
        Due.is("hoaxes are calls too", 5, () -> x.eventAt(0, 1));
        x.split(3);
        Due.is("less by a split", 3, () -> x.eventAt(0, 1));
        Due.is("and those that were split off", 2, () -> x.eventAt(1, 1));
        x.merge(0, 3);
        Due.is("more by a merge", 5, () -> x.eventAt(1, 1));
    }

    private static void kindOfTheFirstCall() {
        for (int kind = 0; kind < 8; kind++) {
            int k = kind;
            CallJoin x = new CallJoin();
            x.call(1, kind, -1, 0, -1, 0);
            x.call(1, 7 - kind, -1, 0, -1, 0);
            Due.is("kind " + kind, k, () -> x.eventAt(0, 2));
            x.split(1);
            Due.is("kind of what was split off", 7 - k, () -> x.eventAt(1, 2));
            x.mark(0, 4);
            Due.is("kind of a hoax", k, () -> x.eventAt(0, 2));
            x.merge(0, 1);
            Due.is("kind of that which it was merged into", 7 - k, () -> x.eventAt(1, 2));
        }
    }

    private static void weightByMarks() {
        CallJoin x = new CallJoin();
        x.call(1, 0, 0, 0, -1, 0);
        x.call(2, 0, -1, 0, -1, 0);
        int[] withPoint = {5, 3, 5, 3, 0, 0, 0, 0};
        int[] without = {4, 2, 4, 2, 0, 0, 0, 0};
        for (int marks = 0; marks < 8; marks++) {
            x.mark(0, marks);
            x.mark(1, marks);
            Due.is("with a point, marks " + marks, withPoint[marks], () -> x.eventAt(0, 3));
            Due.is("without one, marks " + marks, without[marks], () -> x.eventAt(1, 3));
        }
    }

    private static void weightIsASum() {
        CallJoin x = new CallJoin();
        for (int marks = 0; marks < 8; marks++) {
            x.call(1, 0, -1, 0, -1, 0);
            x.call(1, 0, 99_999_999, 0, -1, 0);
            x.mark(2 * marks, marks);
            x.mark(2 * marks + 1, marks);
        }
        Due.is("calls of all marks", 28, () -> x.eventAt(0, 3));
        x.state(0, 2);
        Due.is("closed", 28, () -> x.eventAt(0, 3));
    }

    private static void greatestWeight() {
        CallJoin x = new CallJoin();
        for (int call = 0; call < 120; call++) {
            x.call(1, 0, 5, 0, -1, 0);
        }
        Due.is("120 calls with points", 600, () -> x.eventAt(0, 3));
        for (int call = 0; call < 120; call++) {
            x.mark(call, 4);
        }
        Due.is("120 hoaxes", 0, () -> x.eventAt(0, 3));
        Due.is("their point", -1, () -> x.eventAt(0, 4));
    }

    private static void pointOfTheLowestCall() {
        CallJoin x = new CallJoin();
        x.call(1, 0, -1, 0, -1, 0);
        x.call(1, 0, Due.at(3, 3), 0, -1, 0);
        x.call(2, 1, Due.at(4, 4), 0, -1, 0);
        x.call(1, 0, Due.at(0, 0), 0, -1, 0);
        Due.is("the lowest that has one", Due.at(3, 3), () -> x.eventAt(0, 4));
        x.mark(1, 3);
        Due.is("silent ones have theirs", Due.at(3, 3), () -> x.eventAt(0, 4));
        x.mark(1, 4);
        Due.is("the lowest that is no hoax", Due.at(0, 0), () -> x.eventAt(0, 4));
        x.mark(3, 7);
        Due.is("all with points are hoaxes", -1, () -> x.eventAt(0, 4));
        x.mark(1, 0);
        x.merge(0, 2);
        Due.is("the lowest, though not the first", Due.at(3, 3), () -> x.eventAt(1, 4));
    }

    private static void leastAndGreatestPoint() {
        CallJoin x = new CallJoin();
        x.call(1, 0, 0, 0, -1, 0);
        x.call(2, 1, 99_999_999, 0, -1, 0);
        x.call(3, 2, -1, 0, 4, 0);
        Due.is("point 0", 0, () -> x.eventAt(0, 4));
        Due.is("point 99,999,999", 99_999_999, () -> x.eventAt(1, 4));
        Due.is("a road is no point", -1, () -> x.eventAt(2, 4));
    }

    private static void firstCall() {
        CallJoin x = Sample.alone(3);
        x.merge(0, 2);
        Due.is("not the lowest", 2, () -> x.eventAt(2, 5));
        x.mark(2, 4);
        Due.is("though a hoax", 2, () -> x.eventAt(2, 5));
        x.state(2, 2);
        Due.is("though closed", 2, () -> x.eventAt(2, 5));
    }

    private static void latestTime() {
        CallJoin x = new CallJoin();
        x.call(1, 0, -1, 0, -1, 0);
        Due.is("time 0", 0, () -> x.eventAt(0, 6));
        x.call(1, 0, -1, 0, -1, 500);
        x.call(2, 0, -1, 0, -1, 700);
        Due.is("the latest call's", 500, () -> x.eventAt(0, 6));
        x.mark(1, 4);
        Due.is("though a hoax", 500, () -> x.eventAt(0, 6));
        x.split(1);
        Due.is("what is left", 0, () -> x.eventAt(0, 6));
        x.merge(1, 0);
        Due.is("the latest of all", 700, () -> x.eventAt(0, 6));
        x.call(3, 0, -1, 0, -1, HIGH);
        Due.is("the last second there is", HIGH, () -> x.eventAt(3, 6));
    }

    private static void mergedEvent() {
        CallJoin x = new CallJoin();
        x.call(1, 5, 9, 0, -1, 3);
        x.call(2, 6, -1, 0, -1, 4);
        x.merge(0, 1);
        all("merged", x, 0, 3, 0, 5, 0, -1, -1, -1);
        all("the other", x, 1, 0, 2, 6, 9, 9, 1, 4);
        x.split(0);
        all("merged, its call split off", x, 0, 3, 0, 5, 0, -1, -1, -1);
    }

    private static void firstAndLastEvent() {
        CallJoin x = Sample.full();
        all("the first of 60", x, 0, 0, 61, 0, 244, -1, 0, 119);
        all("the last of 60", x, 59, 0, 1, 3, 4, -1, 59, 59);
    }

    private static void unknownEvents() {
        for (int what = 0; what < 7; what++) {
            int w = what;
            Sight.refusedFor("what " + what + ", event", Due.UNKNOWN, Sample::mixed, (x, event) -> x.eventAt(event, w), -1, 5, LOW, HIGH);
            Sight.refusedFor("what " + what + ", new: event", Due.UNKNOWN, CallJoin::new, (x, event) -> x.eventAt(event, w), -1, 0);
            Sight.refusedFor("what " + what + ", full: event", Due.UNKNOWN, Sample::full, (x, event) -> x.eventAt(event, w), -1, 60);
        }
    }

    private static void unknownWhats() {
        for (int event = 0; event < 5; event++) {
            int e = event;
            Sight.refusedFor("event " + event + ", what", Due.UNKNOWN, Sample::mixed, (x, what) -> x.eventAt(e, what), -1, 7, LOW, HIGH);
        }
        Sight.refused("neither is known", Due.UNKNOWN, Sample::mixed, x -> x.eventAt(5, 7));
    }
}
