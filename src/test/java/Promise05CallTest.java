/** Promise 5: "A call: its number.", what is refused, and how a new call is joined. */
public final class Promise05CallTest {
    private static final int LOW = Integer.MIN_VALUE;
    private static final int HIGH = Integer.MAX_VALUE;

    public static void main(String[] args) {
        Due.of("promise 5, call");
        numbersFromZero();
        leastOfEverything();
        greatestOfEverything();
        everyBitOfTheWords();
        sameTimeAsTheLatest();
        newCallsAreJoined();
        unknownKinds();
        unknownRoads();
        linesOutOfRange();
        pointsOutOfRange();
        timesBelowZero();
        timesBeforeTheLatest();
        timeOfARefusedCallDoesNotCount();
        unknownGoesBeforeRange();
        lastCallAndOneMore();
        lastEventAndOneMore();
        eventsThatEndedStillCount();
        newEventBehindManyCalls();
        joinedCallNeedsNoEvent();
        unknownGoesBeforeRoom();
        rangeGoesBeforeRoom();
        Due.end();
    }

    private static void numbersFromZero() {
        CallJoin x = new CallJoin();
        for (int call = 0; call < 10; call++) {
            int c = call;
            Due.is("call " + call, c, () -> x.call(c, 0, -1, 0, -1, 0));
            Due.is("its event", c, () -> x.callAt(c, 0));
        }
    }

    private static void leastOfEverything() {
        CallJoin x = new CallJoin();
        Due.is("line, kind, point, road and time 0", 0, () -> x.call(0, 0, 0, 0, 0, 0));
        Due.is("its kind", 0, () -> x.callAt(0, 3));
        Due.is("its point", 0, () -> x.eventAt(0, 4));
        Due.is("its time", 0, () -> x.eventAt(0, 6));
        CallJoin y = new CallJoin();
        Due.is("no point and no road", 0, () -> y.call(0, 0, -1, 0, -1, 0));
        Due.is("it has no point", -1, () -> y.eventAt(0, 4));
    }

    private static void greatestOfEverything() {
        CallJoin x = new CallJoin();
        Due.is("the greatest", 0, () -> x.call(999, 7, 99_999_999, -1, 7, HIGH));
        Due.is("its kind", 7, () -> x.callAt(0, 3));
        Due.is("its point", 99_999_999, () -> x.eventAt(0, 4));
        Due.is("its time", HIGH, () -> x.eventAt(0, 6));
        Due.is("its line", 0, () -> x.reasonFor(999, 0, -1, 0, -1, HIGH));
    }

    private static void everyBitOfTheWords() {
        CallJoin x = new CallJoin();
        x.call(0, 0, -1, -1, -1, 0);
        for (int word = 0; word < 32; word++) {
            int w = word;
            Due.is("word " + word, 1 + w, () -> x.call(1 + w, 0, -1, 1 << w, -1, 0));
            Due.is("word " + word + " is one of 32", 31, () -> x.share(0, 1 + w));
        }
        Due.is("the least number is the word 31", 1000, () -> {
            int call = x.call(99, 0, -1, LOW, -1, 0);
            return x.share(call, 32);
        });
    }

    private static void sameTimeAsTheLatest() {
        CallJoin x = new CallJoin();
        x.call(0, 0, -1, 0, -1, 50);
        Due.is("the latest one's time", 1, () -> x.call(1, 0, -1, 0, -1, 50));
        Due.is("a second more", 2, () -> x.call(2, 0, -1, 0, -1, 51));
        Due.is("that again", 3, () -> x.call(3, 0, -1, 0, -1, 51));
    }

    private static void newCallsAreJoined() {
        for (NewCall c : NewCalls.all()) {
            CallJoin x = c.before().make();
            int calls = x.count(0);
            int events = x.count(1);
            int event = c.reason() < 0 ? events : x.callAt(c.reason(), 0);
            int size = c.reason() < 0 ? 0 : x.eventAt(event, 1);
            Due.is(c.name() + ": its number", calls, () -> c.giveTo(x));
            Due.is(c.name() + ": its event", event, () -> x.callAt(calls, 0));
            Due.is(c.name() + ": its reason", c.reason(), () -> x.callAt(calls, 1));
            Due.is(c.name() + ": its marks", 0, () -> x.callAt(calls, 2));
            Due.is(c.name() + ": its kind", c.told()[1], () -> x.callAt(calls, 3));
            Due.is(c.name() + ": how it was joined", c.how(), () -> x.callAt(calls, 4));
            Due.is(c.name() + ": its event's calls", size + 1, () -> x.eventAt(event, 1));
            Due.is(c.name() + ": events", c.reason() < 0 ? events + 1 : events, () -> x.count(1));
            if (c.reason() < 0) {
                Due.is(c.name() + ": the new event is open", 0, () -> x.eventAt(event, 0));
                Due.is(c.name() + ": the new event's kind", c.told()[1], () -> x.eventAt(event, 2));
                Due.is(c.name() + ": the new event's first call", calls, () -> x.eventAt(event, 5));
            }
        }
    }

    private static void unknownKinds() {
        Sight.refusedFor("kind", Due.UNKNOWN, Sample::mixed, (x, kind) -> x.call(1, kind, 0, 1, 0, 80), -1, 8, LOW, HIGH);
        Sight.refusedFor("new: kind", Due.UNKNOWN, CallJoin::new, (x, kind) -> x.call(1, kind, 0, 1, 0, 0), -1, 8);
    }

    private static void unknownRoads() {
        Sight.refusedFor("road", Due.UNKNOWN, Sample::mixed, (x, road) -> x.call(1, 0, 0, 1, road, 80), -2, 8, LOW, HIGH);
        Sight.refusedFor("no point, road", Due.UNKNOWN, Sample::mixed, (x, road) -> x.call(1, 0, -1, 1, road, 80), -2, 8);
        Sight.refusedFor("new: road", Due.UNKNOWN, CallJoin::new, (x, road) -> x.call(1, 0, 0, 1, road, 0), -2, 8);
    }

    private static void linesOutOfRange() {
        Sight.refusedFor("line", Due.RANGE, Sample::mixed, (x, line) -> x.call(line, 0, 0, 1, 0, 80), -1, 1000, LOW, HIGH);
        Sight.refusedFor("new: line", Due.RANGE, CallJoin::new, (x, line) -> x.call(line, 0, 0, 1, 0, 0), -1, 1000);
    }

    private static void pointsOutOfRange() {
        Sight.refusedFor("point", Due.RANGE, Sample::mixed, (x, point) -> x.call(1, 0, point, 1, 0, 80),
            -2, 100_000_000, LOW, HIGH);
        Sight.refusedFor("new: point", Due.RANGE, CallJoin::new, (x, point) -> x.call(1, 0, point, 1, 0, 0), -2, 100_000_000);
    }

    private static void timesBelowZero() {
        Sight.refusedFor("new: time", Due.RANGE, CallJoin::new, (x, t) -> x.call(1, 0, 0, 1, 0, t), -1, LOW);
        Sight.refusedFor("after a call at 0: time", Due.RANGE, () -> Sample.alone(1), (x, t) -> x.call(1, 0, 0, 1, 0, t), -1, LOW);
        Sight.refusedFor("time", Due.RANGE, Sample::mixed, (x, t) -> x.call(1, 0, 0, 1, 0, t), -1, LOW);
    }

    private static void timesBeforeTheLatest() {
        Sight.refusedFor("time", Due.RANGE, Sample::mixed, (x, t) -> x.call(1, 0, 0, 1, 0, t), 79, 0);
        CallJoin x = new CallJoin();
        x.call(1, 0, -1, 0, -1, HIGH);
        Due.refuses("the last second but one after the last", Due.RANGE, () -> x.call(1, 0, -1, 0, -1, HIGH - 1));
        Due.is("the last second again", 1, () -> x.call(1, 0, -1, 0, -1, HIGH));
        CallJoin closed = Sample.alone(5);
        closed.mark(4, 4);
        closed.state(4, 2);
        Due.refuses("the latest one counts though closed and a hoax", Due.RANGE, () -> closed.call(9, 0, -1, 0, -1, 3));
        Due.is("at its time", 5, () -> closed.call(9, 0, -1, 0, -1, 4));
    }

    private static void timeOfARefusedCallDoesNotCount() {
        CallJoin x = Sample.alone(60);
        Due.refuses("a 61st event, late", Due.ROOM, () -> x.call(99, 0, -1, 0, -1, 500));
        Due.refuses("a line that is none, late", Due.RANGE, () -> x.call(1000, 0, -1, 0, -1, 500));
        Due.is("the latest one's time still counts", 60, () -> x.call(0, 0, -1, 0, -1, 59));
    }

    private static void unknownGoesBeforeRange() {
        Sight.refused("unknown kind, line", Due.UNKNOWN, Sample::mixed, x -> x.call(-1, 8, 0, 1, 0, 80));
        Sight.refused("unknown kind, point", Due.UNKNOWN, Sample::mixed, x -> x.call(1, -1, -2, 1, 0, 80));
        Sight.refused("unknown kind, time", Due.UNKNOWN, Sample::mixed, x -> x.call(1, 8, 0, 1, 0, 79));
        Sight.refused("unknown road, line", Due.UNKNOWN, Sample::mixed, x -> x.call(1000, 0, 0, 1, 8, 80));
        Sight.refused("unknown road, point", Due.UNKNOWN, Sample::mixed, x -> x.call(1, 0, 100_000_000, 1, -2, 80));
        Sight.refused("unknown road, time", Due.UNKNOWN, Sample::mixed, x -> x.call(1, 0, 0, 1, 8, -1));
    }

    private static void lastCallAndOneMore() {
        CallJoin x = Sample.chain(119);
        Due.is("the 120th call", 119, () -> x.call(1, 0, -1, 0, -1, 119));
        Due.is("is in the event", 120, () -> x.eventAt(0, 1));
        Sight.refused("a 121st that would be joined", Due.ROOM, () -> Sample.chain(120), y -> y.call(1, 0, -1, 0, -1, 119));
        Sight.refused("a 121st of a new event", Due.ROOM, () -> Sample.chain(120), y -> y.call(2, 0, -1, 0, -1, 119));
        Sight.refused("a 121st and a 61st event", Due.ROOM, Sample::full, y -> y.call(99, 0, -1, 0, -1, 119));
        Sight.refused("a 121st, full of events", Due.ROOM, Sample::full, y -> y.call(0, 0, -1, 0, -1, 119));
    }

    private static void lastEventAndOneMore() {
        CallJoin x = Sample.alone(59);
        Due.is("the 60th event's call", 59, () -> x.call(99, 0, -1, 0, -1, 59));
        Due.is("the 60th event", 59, () -> x.callAt(59, 0));
        Sight.refused("a 61st event", Due.ROOM, () -> Sample.alone(60), y -> y.call(99, 0, 0, 1, 0, 60));
    }

    private static void eventsThatEndedStillCount() {
        Sight.refused("a 61st event, one is closed", Due.ROOM, () -> {
            CallJoin x = Sample.alone(60);
            x.state(3, 2);
            return x;
        }, y -> y.call(3, 0, -1, 0, -1, 60));
        Sight.refused("a 61st event, one is handed over", Due.ROOM, () -> {
            CallJoin x = Sample.alone(60);
            x.state(3, 1);
            return x;
        }, y -> y.call(3, 0, -1, 0, -1, 60));
        Sight.refused("a 61st event, one is merged", Due.ROOM, () -> {
            CallJoin x = Sample.alone(60);
            x.merge(3, 4);
            return x;
        }, y -> y.call(99, 0, -1, 0, -1, 60));
    }

    private static void newEventBehindManyCalls() {
        for (int calls : new int[] {59, 60, 61, 119}) {
            CallJoin x = Sample.chain(calls);
            Due.is("a new event behind " + calls + " calls", calls, () -> x.call(2, 0, -1, 0, -1, calls));
            Due.is("its number", 1, () -> x.callAt(calls, 0));
        }
    }

    private static void joinedCallNeedsNoEvent() {
        CallJoin x = Sample.alone(60);
        Due.is("one that is joined, with 60 events", 60, () -> x.call(3, 0, -1, 0, -1, 60));
        Due.is("is in the event of its line", 3, () -> x.callAt(60, 0));
        Due.is("there are 60", 60, () -> x.count(1));
    }

    private static void unknownGoesBeforeRoom() {
        Sight.refused("unknown kind, full", Due.UNKNOWN, Sample::full, x -> x.call(0, 8, -1, 0, -1, 119));
        Sight.refused("unknown road, full", Due.UNKNOWN, Sample::full, x -> x.call(0, 0, -1, 0, 8, 119));
        Sight.refused("unknown kind, 60 events", Due.UNKNOWN, () -> Sample.alone(60), x -> x.call(99, -1, -1, 0, -1, 60));
    }

    private static void rangeGoesBeforeRoom() {
        Sight.refused("line, full", Due.RANGE, Sample::full, x -> x.call(1000, 0, -1, 0, -1, 119));
        Sight.refused("point, full", Due.RANGE, Sample::full, x -> x.call(0, 0, -2, 0, -1, 119));
        Sight.refused("time, full", Due.RANGE, Sample::full, x -> x.call(0, 0, -1, 0, -1, 118));
        Sight.refused("time, 60 events", Due.RANGE, () -> Sample.alone(60), x -> x.call(99, 0, -1, 0, -1, 58));
    }
}
