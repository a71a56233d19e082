/** Promise 10: "An event gets a stretch of a road (instead of another one)." */
public final class Promise10WatchTest {
    private static final int LOW = Integer.MIN_VALUE;
    private static final int HIGH = Integer.MAX_VALUE;

    public static void main(String[] args) {
        Due.of("promise 10, watch");
        wholeRoadOfEight();
        everyPairOfPoints();
        firstAndLastRoadAndEvent();
        insteadOfAnotherOne();
        twoPointsAtOnePlace();
        stretchOutlastsTheStates();
        justFiftyMetres();
        unknownEvents();
        unknownRoads();
        pointsThatAreNone();
        theSamePoint();
        roadsThatAreTooShort();
        notOpen();
        merged();
        unknownGoesBeforeRange();
        unknownGoesBeforeState();
        rangeGoesBeforeState();
        refusedLeavesTheOldStretch();
        Due.end();
    }

    /** Event 0 of kind 0, and the road 7 with the points 0|0, 1000|0, .., 7000|0. */
    private static CallJoin withRoad() {
        CallJoin x = Sample.alone(1);
        for (int i = 0; i < 8; i++) {
            x.point(7, Due.at(1000 * i, 0));
        }
        return x;
    }

    private static void on(String what, boolean want, CallJoin x, int px, int py) {
        Due.is(what + ": " + px + "|" + py, want ? 0 : -1, () -> x.reasonFor(50, 0, Due.at(px, py), 0, -1, 0));
    }

    private static void wholeRoadOfEight() {
        CallJoin x = withRoad();
        x.watch(0, 7, 0, 7);
        on("0 to 7", true, x, 0, 0);
        on("0 to 7", true, x, 3500, 50);
        on("0 to 7", false, x, 3500, 51);
        on("0 to 7", true, x, 7050, 0);
        on("0 to 7", false, x, 7051, 0);
    }

    private static void everyPairOfPoints() {
        for (int a = 0; a < 8; a++) {
            for (int b = 0; b < 8; b++) {
                if (a != b) {
                    CallJoin x = withRoad();
                    x.watch(0, 7, a, b);
                    for (int piece = 0; piece < 7; piece++) {
                        boolean inside = piece >= Math.min(a, b) && piece < Math.max(a, b);
                        on(a + " to " + b, inside, x, 1000 * piece + 500, 0);
                    }
                }
            }
        }
    }

    private static void firstAndLastRoadAndEvent() {
        for (int road = 0; road < 8; road++) {
            int r = road;
            CallJoin x = Sample.alone(60);
            x.point(road, 0);
            x.point(road, Due.at(100, 0));
            x.watch(56, road, 0, 1);
            Due.is("event 56 on road " + road, 56, () -> x.reasonFor(99, 0, -1, 0, r, 59));
            x.watch(59, road, 1, 0);
            Due.is("event 59 on road " + road, 59, () -> x.reasonFor(99, 3, -1, 0, r, 59));
            x.watch(0, road, 0, 1);
            Due.is("event 0 on road " + road, 0, () -> x.reasonFor(99, 0, -1, 0, r, 59));
        }
    }

    private static void insteadOfAnotherOne() {
        CallJoin x = withRoad();
        x.point(0, Due.at(0, 5000));
        x.point(0, Due.at(0, 6000));
        x.watch(0, 7, 0, 7);
        x.watch(0, 0, 0, 1);
        on("the old one", false, x, 500, 0);
        on("the new one", true, x, 0, 5500);
        Due.is("the old one's road", -1, () -> x.reasonFor(50, 0, -1, 0, 7, 0));
        Due.is("the new one's road", 0, () -> x.reasonFor(50, 0, -1, 0, 0, 0));
        x.watch(0, 7, 2, 3);
        x.watch(0, 7, 4, 5);
        on("another part of the same road", true, x, 4500, 0);
        on("the old part of the same road", false, x, 2500, 0);
        x.watch(0, 7, 4, 5);
        on("the same part once more", true, x, 4500, 0);
    }

    private static void twoPointsAtOnePlace() {
        CallJoin x = Sample.alone(1);
        x.point(0, Due.at(500, 500));
        x.point(0, Due.at(500, 500));
        x.watch(0, 0, 0, 1);
        on("points that are different but not apart", true, x, 530, 540);
        on("points that are different but not apart", false, x, 530, 541);
    }

    private static void stretchOutlastsTheStates() {
        for (int state = 1; state < 3; state++) {
            CallJoin x = withRoad();
            x.watch(0, 7, 0, 1);
            x.state(0, state);
            on("not open", false, x, 500, 0);
            x.state(0, 0);
            on("open again", true, x, 500, 0);
        }
    }

    private static void justFiftyMetres() {
        CallJoin x = Sample.alone(1);
        x.point(0, Due.at(1000, 1000));
        x.point(0, Due.at(4000, 5000));
        x.watch(0, 0, 0, 1);
        on("50 across", true, x, 2460, 3030);
        on("above 50 across", false, x, 2459, 3030);
        on("50 behind the end", true, x, 4030, 5040);
        on("above 50 behind the end", false, x, 4031, 5040);
        on("50 before the start", true, x, 970, 960);
        on("above 50 before the start", false, x, 969, 960);
        on("50 beside the start", true, x, 960, 1030);
        on("above 50 beside the start", false, x, 959, 1030);
    }

    private static void unknownEvents() {
        Sight.refusedFor("event", Due.UNKNOWN, Sample::mixed, (x, event) -> x.watch(event, 1, 0, 1), -1, 5, LOW, HIGH);
        Sight.refusedFor("new: event", Due.UNKNOWN, CallJoin::new, (x, event) -> x.watch(event, 1, 0, 1), -1, 0);
        Sight.refusedFor("full: event", Due.UNKNOWN, Sample::full, (x, event) -> x.watch(event, 1, 0, 1), -1, 60);
        CallJoin y = withRoad();
        Due.refuses("the next event", Due.UNKNOWN, () -> y.watch(1, 7, 0, 7));
        y.call(9, 1, -1, 0, -1, 0);
        Due.is("is not watched when it comes", -1, () -> y.reasonFor(50, 1, 0, 0, -1, 0));
    }

    private static void unknownRoads() {
        Sight.refusedFor("road", Due.UNKNOWN, Sample::mixed, (x, road) -> x.watch(0, road, 0, 1), -1, 8, LOW, HIGH);
    }

    private static void pointsThatAreNone() {
        Sight.refusedFor("3 points: a", Due.RANGE, Sample::mixed, (x, a) -> x.watch(0, 0, a, 1), -1, 3, LOW, HIGH);
        Sight.refusedFor("3 points: b", Due.RANGE, Sample::mixed, (x, b) -> x.watch(0, 0, 1, b), -1, 3, LOW, HIGH);
        Sight.refusedFor("8 points: a", Due.RANGE, Sample::mixed, (x, a) -> x.watch(0, 1, a, 0), -1, 8, LOW, HIGH);
        Sight.refusedFor("8 points: b", Due.RANGE, Sample::mixed, (x, b) -> x.watch(0, 1, 0, b), -1, 8, LOW, HIGH);
        CallJoin y = Sample.mixed();
        y.watch(0, 0, 2, 1);
        Due.is("the last of 3 points", 0, () -> y.reasonFor(50, 0, Due.at(2000, 2000), 8, -1, 80));
    }

    private static void theSamePoint() {
        for (int point = 0; point < 8; point++) {
            int p = point;
            Sight.refused("from " + point + " to itself", Due.RANGE, Sample::mixed, x -> x.watch(0, 1, p, p));
        }
    }

    private static void roadsThatAreTooShort() {
        Sight.refused("one point", Due.RANGE, Sample::mixed, x -> x.watch(0, 2, 0, 1));
        Sight.refused("one point, backwards", Due.RANGE, Sample::mixed, x -> x.watch(0, 2, 1, 0));
        Sight.refused("one point, twice", Due.RANGE, Sample::mixed, x -> x.watch(0, 2, 0, 0));
        Sight.refused("no point", Due.RANGE, Sample::mixed, x -> x.watch(0, 3, 0, 1));
        Sight.refused("no point, of the last road", Due.RANGE, Sample::mixed, x -> x.watch(0, 7, 0, 1));
    }

    private static void notOpen() {
        Sight.refused("handed over", Due.STATE, Sample::mixed, x -> x.watch(1, 1, 0, 7));
        Sight.refused("closed", Due.STATE, Sample::mixed, x -> x.watch(2, 1, 0, 7));
        for (int state = 1; state < 3; state++) {
            CallJoin x = withRoad();
            x.watch(0, 7, 0, 1);
            x.state(0, state);
            Due.refuses("state " + state, Due.STATE, () -> x.watch(0, 7, 5, 6));
            x.state(0, 0);
            on("open again with the old one, state " + state, true, x, 500, 0);
            on("open again without the new one, state " + state, false, x, 5500, 0);
        }
    }

    private static void merged() {
        Sight.refused("merged", Due.STATE, Sample::mixed, x -> x.watch(3, 1, 0, 7));
    }

    private static void unknownGoesBeforeRange() {
        Sight.refused("unknown event, points", Due.UNKNOWN, Sample::mixed, x -> x.watch(5, 0, 3, 3));
        Sight.refused("unknown road, points", Due.UNKNOWN, Sample::mixed, x -> x.watch(0, 8, -1, -1));
    }

    private static void unknownGoesBeforeState() {
        Sight.refused("unknown road, closed", Due.UNKNOWN, Sample::mixed, x -> x.watch(2, 8, 0, 1));
        Sight.refused("unknown road, merged", Due.UNKNOWN, Sample::mixed, x -> x.watch(3, -1, 0, 1));
    }

    private static void rangeGoesBeforeState() {
        Sight.refused("points, handed over", Due.RANGE, Sample::mixed, x -> x.watch(1, 0, 0, 3));
        Sight.refused("points, closed", Due.RANGE, Sample::mixed, x -> x.watch(2, 0, -1, 0));
        Sight.refused("points, merged", Due.RANGE, Sample::mixed, x -> x.watch(3, 0, 1, 1));
    }

    private static void refusedLeavesTheOldStretch() {
        CallJoin x = withRoad();
        x.watch(0, 7, 2, 3);
        Due.refuses("b 8", Due.RANGE, () -> x.watch(0, 7, 0, 8));
        Due.refuses("a 8", Due.RANGE, () -> x.watch(0, 7, 8, 0));
        Due.refuses("the same", Due.RANGE, () -> x.watch(0, 7, 0, 0));
        Due.refuses("road 8", Due.UNKNOWN, () -> x.watch(0, 8, 0, 1));
        Due.refuses("an empty road", Due.RANGE, () -> x.watch(0, 0, 0, 1));
        on("its start", true, x, 1950, 0);
        on("before its start", false, x, 1949, 0);
        on("its end", true, x, 3050, 0);
        on("behind its end", false, x, 3051, 0);
        Due.is("its road", 0, () -> x.reasonFor(50, 0, -1, 0, 7, 0));
    }
}
