/** Promise 6: "the call that would be its reason; -1 for a new event. Refused like call() (but for room)." */
public final class Promise06ReasonForTest {
    private static final int LOW = Integer.MIN_VALUE;
    private static final int HIGH = Integer.MAX_VALUE;

    public static void main(String[] args) {
        Due.of("promise 6, reasonFor");
        reasonsOfNewCalls();
        changesNothing();
        timeThatIsAskedDoesNotCount();
        thePresentRules();
        unknownKinds();
        unknownRoads();
        linesOutOfRange();
        pointsOutOfRange();
        timesOutOfRange();
        unknownGoesBeforeRange();
        noRoomForCalls();
        noRoomForEvents();
        refusedWithoutRoom();
        Due.end();
    }

    private static void reasonsOfNewCalls() {
        for (NewCall c : NewCalls.all()) {
            Due.is(c.name(), c.reason(), () -> c.askOf(c.before().make()));
        }
    }

    private static void changesNothing() {
        for (NewCall c : NewCalls.all()) {
            Sight.unchanged(c.name(), c.before(), c::askOf);
        }
        Sight.unchanged("again", Sample::mixed, x -> x.reasonFor(10, 0, -1, 0, -1, 80));
        Sight.unchanged("a new event", Sample::mixed, x -> x.reasonFor(99, 6, -1, 0, -1, 500));
        Sight.unchanged("a full object", Sample::full, x -> x.reasonFor(0, 0, 5, 7, 3, 500));
    }

    private static void timeThatIsAskedDoesNotCount() {
        CallJoin x = Sample.alone(2);
        Due.is("much later", -1, () -> x.reasonFor(1, 0, -1, 0, -1, HIGH));
        Due.is("and then at the latest one's time", 1, () -> x.reasonFor(1, 0, -1, 0, -1, 1));
        Due.is("a call then", 2, () -> x.call(1, 0, -1, 0, -1, 1));
        Due.is("is joined", 1, () -> x.callAt(2, 1));
    }

    private static void thePresentRules() {
        CallJoin x = new CallJoin();
        x.call(1, 0, Due.at(5, 5), 1, -1, 10);
        Due.is("at first", 0, () -> x.reasonFor(9, 0, Due.at(5, 5), 3, -1, 10));
        x.rule(0, 200, 600, 2, 3);
        Due.is("another need", -1, () -> x.reasonFor(9, 0, Due.at(5, 5), 3, -1, 10));
        x.weight(0, 0, 2);
        Due.is("another weight", 0, () -> x.reasonFor(9, 0, Due.at(5, 5), 3, -1, 10));
        x.rule(0, 4, 600, 2, 3);
        Due.is("another distance", -1, () -> x.reasonFor(9, 0, Due.at(5, 10), 3, -1, 10));
        x.rule(0, 5, 3, 2, 3);
        Due.is("at that distance and span", 0, () -> x.reasonFor(9, 0, Due.at(5, 10), 3, -1, 13));
        Due.is("above that span", -1, () -> x.reasonFor(9, 0, Due.at(5, 10), 3, -1, 14));
    }

    private static void unknownKinds() {
        Sight.refusedFor("kind", Due.UNKNOWN, Sample::mixed, (x, kind) -> x.reasonFor(1, kind, 0, 1, 0, 80), -1, 8, LOW, HIGH);
        Due.is("kind 0, by words", 5, () -> Sample.mixed().reasonFor(1, 0, 0, 1, -1, 80));
        Due.is("kind 7", -1, () -> Sample.mixed().reasonFor(1, 7, 0, 1, -1, 80));
    }

    private static void unknownRoads() {
        Sight.refusedFor("road", Due.UNKNOWN, Sample::mixed, (x, road) -> x.reasonFor(1, 0, 0, 1, road, 80), -2, 8, LOW, HIGH);
        Due.is("road -1", -1, () -> Sample.mixed().reasonFor(1, 0, -1, 8, -1, 80));
        Due.is("road 0", 0, () -> Sample.mixed().reasonFor(1, 0, -1, 8, 0, 80));
        Due.is("road 7", -1, () -> Sample.mixed().reasonFor(1, 0, -1, 8, 7, 80));
    }

    private static void linesOutOfRange() {
        Sight.refusedFor("line", Due.RANGE, Sample::mixed, (x, line) -> x.reasonFor(line, 0, 0, 1, 0, 80), -1, 1000, LOW, HIGH);
        Due.is("line 0", -1, () -> Sample.mixed().reasonFor(0, 7, 0, 1, 0, 80));
        Due.is("line 999", -1, () -> Sample.mixed().reasonFor(999, 7, 0, 1, 0, 80));
    }

    private static void pointsOutOfRange() {
        Sight.refusedFor("point", Due.RANGE, Sample::mixed, (x, point) -> x.reasonFor(1, 0, point, 1, 0, 80),
            -2, 100_000_000, LOW, HIGH);
        Due.is("point -1", -1, () -> Sample.mixed().reasonFor(1, 7, -1, 1, 0, 80));
        Due.is("point 0", -1, () -> Sample.mixed().reasonFor(1, 7, 0, 1, 0, 80));
        Due.is("point 99,999,999", -1, () -> Sample.mixed().reasonFor(1, 7, 99_999_999, 1, 0, 80));
    }

    private static void timesOutOfRange() {
        Sight.refusedFor("time", Due.RANGE, Sample::mixed, (x, t) -> x.reasonFor(10, 0, 0, 1, 0, t), 79, 0, -1, LOW);
        Sight.refusedFor("new: time", Due.RANGE, CallJoin::new, (x, t) -> x.reasonFor(10, 0, 0, 1, 0, t), -1, LOW);
        Due.is("the latest one's time", 5, () -> Sample.mixed().reasonFor(10, 0, 0, 1, 0, 80));
        Due.is("new: time 0", -1, () -> new CallJoin().reasonFor(10, 0, 0, 1, 0, 0));
        Due.is("the last second there is", 0, () -> Sample.mixed().reasonFor(10, 0, -1, 1, 0, HIGH));
    }

    private static void unknownGoesBeforeRange() {
        Sight.refused("unknown kind, line", Due.UNKNOWN, Sample::mixed, x -> x.reasonFor(-1, 8, 0, 1, 0, 80));
        Sight.refused("unknown kind, point", Due.UNKNOWN, Sample::mixed, x -> x.reasonFor(1, -1, -2, 1, 0, 80));
        Sight.refused("unknown kind, time", Due.UNKNOWN, Sample::mixed, x -> x.reasonFor(1, 8, 0, 1, 0, 79));
        Sight.refused("unknown road, line", Due.UNKNOWN, Sample::mixed, x -> x.reasonFor(1000, 0, 0, 1, 8, 80));
        Sight.refused("unknown road, point", Due.UNKNOWN, Sample::mixed, x -> x.reasonFor(1, 0, 100_000_000, 1, -2, 80));
        Sight.refused("unknown road, time", Due.UNKNOWN, Sample::mixed, x -> x.reasonFor(1, 0, 0, 1, 8, -1));
    }

    private static void noRoomForCalls() {
        Due.is("120 calls: the reason", 119, () -> Sample.chain(120).reasonFor(1, 0, -1, 0, -1, 719));
        Due.is("120 calls: above the span", -1, () -> Sample.chain(120).reasonFor(1, 0, -1, 0, -1, 720));
        Due.is("120 calls: a new event", -1, () -> Sample.chain(120).reasonFor(2, 0, -1, 0, -1, 119));
    }

    private static void noRoomForEvents() {
        Due.is("60 events: a new one", -1, () -> Sample.alone(60).reasonFor(99, 0, -1, 0, -1, 59));
        Due.is("60 events: the reason", 59, () -> Sample.alone(60).reasonFor(59, 0, -1, 0, -1, 59));
        Due.is("full: a new event", -1, () -> Sample.full().reasonFor(99, 0, -1, 0, -1, 119));
    }

    private static void refusedWithoutRoom() {
        Sight.refused("full: unknown kind", Due.UNKNOWN, Sample::full, x -> x.reasonFor(0, 8, -1, 0, -1, 119));
        Sight.refused("full: unknown road", Due.UNKNOWN, Sample::full, x -> x.reasonFor(0, 0, -1, 0, -2, 119));
        Sight.refused("full: line", Due.RANGE, Sample::full, x -> x.reasonFor(1000, 0, -1, 0, -1, 119));
        Sight.refused("full: time", Due.RANGE, Sample::full, x -> x.reasonFor(0, 0, -1, 0, -1, 118));
    }
}
